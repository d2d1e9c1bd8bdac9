def fedT (T : List Int32) (a b c d e : Int32) : List Int32 := if T.length + 20 ≤ 800 then T ++ bytes4 a ++ bytes4 b ++ bytes4 c ++ bytes4 d ++ bytes4 e else T
def fedR (T : List Int32) : Int32 := if T.length + 20 ≤ 800 then nI (T.length + 20) else -1
theorem img_b {a b z : Nat} (h : (1 ≤ a ∧ a ≤ 65520) ∧ b ≤ 65520) (hz : z < 65521) : a * z + b < 2 ^ 63 ∧ 0 < 65521 ∧ 65521 < 2 ^ 63 := by
  have h1 : a * z ≤ 65520 * 65520 := Nat.mul_le_mul h.1.2 (by omega)
  refine ⟨by omega, by decide, by decide⟩

set_option maxHeartbeats 4000000 in
set_option maxRecDepth 100000 in
theorem c_X9_thrown {D : va_G} {cB cI cJ cO : ClassId} {l : Launch} {m0 b1 b2 b5 b6 b7 b12 b14 b15 b16 b20 b21 b22 b23 b24 b26 b31 th len ps nm bt_ so wi fm dn ca sta xn bb rr pp qq : Nat} {ws : va_W} (g33 : ws[33]? = some (m0, .inr (10, [.int (nI th), .ref b1, .ref b2, .int (nI len), .int (nI ps), .ref b5, .ref b6, .ref b7, .int (nI nm), .int (nI bt_), .int (nI so), .int (nI wi), .ref b12, .int (nI fm), .ref b14, .ref b15, .ref b16, .int (nI dn), .int (nI ca), .int (nI sta), .ref b20, .ref b21, .ref b22, .ref b23, .ref b24, .int (nI xn), .ref b26, .int (nI bb), .int (nI rr), .int (nI pp), .int (nI qq), .ref b31])))  : CI D (TY cB cI cJ cO) l yX9_thrown wsX9_thrown ({ frames := 0, cells := 0, slots := 0, locals := 0 }) [.ref m0] ws (fun r ws' => r = nI (th) ∧ ws = ws') := by
  refine CI.of (cc := cX9_thrown) (maxL := 1) (ret := (some .int)) (by decide) rfl (Nat.le_of_ble_eq_true rfl) ?_
  intro p e s m below meth c A C hK hP hD hA hS ls hl
  obtain ⟨hx, hb, hr, hml, hts, hown, hlocks, hnm⟩ := id C
  have fl_1 := hts (.fieldLink RX9 1 "TwinFinderModel" "thrown" "I") (by decide +kernel)
  have hin_X9 : ∀ w ∈ u_ws RX9 TX9 32, w ∈ wsX9_thrown := by decide +kernel
  have hl : lv_has ls 1 [(0, .ref m0)] := hl
  have sm : Sm (fun _ => False) ws ws := Sm.rf
  have hc0 : (0 : Nat) ≤ 0 := by decide
  have hs0 : (0 : Nat) ≤ 0 := by decide
  refine lv_aload_n hx hb dX9_thrown_0 rfl (lv_at hl 0 rfl) ?_
  refine va_get (D := D) (ci := 10) (v := .int (nI th)) (C := RX9) (T := TX9) (N := 32) hx hb hts hin_X9 hown hK hP 33 g33 rfl 0 (by decide) fl_1 (fun _ h9 => h9) rfl dX9_thrown_1 ?_
  exact CI.ret (v := (nI th)) C hK hP hD hS rfl (⟨rfl, rfl⟩) hc0 hs0 dX9_thrown_4
set_option maxHeartbeats 4000000 in
set_option maxRecDepth 100000 in
theorem c_X9_throwsIf {D : va_G} {cB cI cJ cO : ClassId} {l : Launch} {m0 b1 b2 b5 b6 b7 b12 b14 b15 b16 b20 b21 b22 b23 b24 b26 b31 th len ps nm bt_ so wi fm dn ca sta xn bb rr pp qq : Nat} {b : Bool} {ws : va_W} (g33 : ws[33]? = some (m0, .inr (10, [.int (nI th), .ref b1, .ref b2, .int (nI len), .int (nI ps), .ref b5, .ref b6, .ref b7, .int (nI nm), .int (nI bt_), .int (nI so), .int (nI wi), .ref b12, .int (nI fm), .ref b14, .ref b15, .ref b16, .int (nI dn), .int (nI ca), .int (nI sta), .ref b20, .ref b21, .ref b22, .ref b23, .ref b24, .int (nI xn), .ref b26, .int (nI bb), .int (nI rr), .int (nI pp), .int (nI qq), .ref b31])))  : CI D (TY cB cI cJ cO) l yX9_throwsIf wsX9_throwsIf ({ frames := 0, cells := 0, slots := 0, locals := 0 }) [.ref m0, .int (nI (b.toNat))] ws (fun r ws' => r = nI (b.toNat) ∧ Sm (fun k => k = 33) ws ws' ∧ ws'[33]? = some (m0, .inr (10, [.int (nI (b.toNat)), .ref b1, .ref b2, .int (nI len), .int (nI ps), .ref b5, .ref b6, .ref b7, .int (nI nm), .int (nI bt_), .int (nI so), .int (nI wi), .ref b12, .int (nI fm), .ref b14, .ref b15, .ref b16, .int (nI dn), .int (nI ca), .int (nI sta), .ref b20, .ref b21, .ref b22, .ref b23, .ref b24, .int (nI xn), .ref b26, .int (nI bb), .int (nI rr), .int (nI pp), .int (nI qq), .ref b31]))) := by
  refine CI.of (cc := cX9_throwsIf) (maxL := 2) (ret := (some .boolean)) (by decide) rfl (Nat.le_of_ble_eq_true rfl) ?_
  intro p e s m below meth c A C hK hP hD hA hS ls hl
  obtain ⟨hx, hb, hr, hml, hts, hown, hlocks, hnm⟩ := id C
  have fl_1 := hts (.fieldLink RX9 1 "TwinFinderModel" "thrown" "I") (by decide +kernel)
  have hin_X9 : ∀ w ∈ u_ws RX9 TX9 32, w ∈ wsX9_throwsIf := by decide +kernel
  have hl : lv_has ls 2 [(0, .ref m0), (1, .int (nI (b.toNat)))] := hl
  have sm : Sm (fun k => k = 33) ws ws := Sm.rf
  have hc0 : (0 : Nat) ≤ 0 := by decide
  have hs0 : (0 : Nat) ≤ 0 := by decide
  refine lv_aload_n hx hb dX9_throwsIf_0 rfl (lv_at hl 0 rfl) ?_
  refine lv_iload_n hx hb dX9_throwsIf_1 rfl (lv_at hl 1 rfl) ?_
  refine nx_if_eq (tgt := 9) hx hb (by cases b <;> decide) dX9_throwsIf_2 (by decide) (fun c_2 => ?_) (fun c_2 => ?_)
  · refine lv_iconst (v := nI 0) hx hb dX9_throwsIf_9 (by decide) ?_
    refine nx_put (D := D) (ci := 10) (v := .int (nI 0)) (ty := .int) (C := RX9) (T := TX9) (N := 32) hx hb hts hin_X9 tyX9 tyX9_ok nmX9 hown hK hP hD hS 33 g33 rfl 0 (by decide) fl_1 (fun _ h9 => h9) rfl (by decide +kernel) rfl rfl (Nat.le_of_ble_eq_true rfl) dX9_throwsIf_10 (fun ws_1 H locs gq up_2 hP hD hS => ?_)
    have g33 : ws_1[33]? = some (m0, .inr (10, [.int (nI 0), .ref b1, .ref b2, .int (nI len), .int (nI ps), .ref b5, .ref b6, .ref b7, .int (nI nm), .int (nI bt_), .int (nI so), .int (nI wi), .ref b12, .int (nI fm), .ref b14, .ref b15, .ref b16, .int (nI dn), .int (nI ca), .int (nI sta), .ref b20, .ref b21, .ref b22, .ref b23, .ref b24, .int (nI xn), .ref b26, .int (nI bb), .int (nI rr), .int (nI pp), .int (nI qq), .ref b31])) := gq
    have sm := sm.up up_2 (by simp)
    refine lv_iload_n hx hb dX9_throwsIf_13 rfl (lv_at hl 1 rfl) ?_
    have hb1 : b.toNat = 0 := by cases b <;> simp_all
    have g33 : ws_1[33]? = some (m0, .inr (10, [.int (nI (b.toNat)), .ref b1, .ref b2, .int (nI len), .int (nI ps), .ref b5, .ref b6, .ref b7, .int (nI nm), .int (nI bt_), .int (nI so), .int (nI wi), .ref b12, .int (nI fm), .ref b14, .ref b15, .ref b16, .int (nI dn), .int (nI ca), .int (nI sta), .ref b20, .ref b21, .ref b22, .ref b23, .ref b24, .int (nI xn), .ref b26, .int (nI bb), .int (nI rr), .int (nI pp), .int (nI qq), .ref b31])) := by rw [hb1]; exact g33
    exact CI.ret (v := (nI b.toNat)) C hK hP hD hS (by cases b <;> decide) (⟨rfl, sm, g33⟩) hc0 hs0 dX9_throwsIf_14
  · refine lv_iconst (v := nI 1) hx hb dX9_throwsIf_5 (by decide) ?_
    refine lv_goto (tgt := 10) hx hb dX9_throwsIf_6 (by decide) ?_
    refine nx_put (D := D) (ci := 10) (v := .int (nI 1)) (ty := .int) (C := RX9) (T := TX9) (N := 32) hx hb hts hin_X9 tyX9 tyX9_ok nmX9 hown hK hP hD hS 33 g33 rfl 0 (by decide) fl_1 (fun _ h9 => h9) rfl (by decide +kernel) rfl rfl (Nat.le_of_ble_eq_true rfl) dX9_throwsIf_10 (fun ws_3 H locs gq up_4 hP hD hS => ?_)
    have g33 : ws_3[33]? = some (m0, .inr (10, [.int (nI 1), .ref b1, .ref b2, .int (nI len), .int (nI ps), .ref b5, .ref b6, .ref b7, .int (nI nm), .int (nI bt_), .int (nI so), .int (nI wi), .ref b12, .int (nI fm), .ref b14, .ref b15, .ref b16, .int (nI dn), .int (nI ca), .int (nI sta), .ref b20, .ref b21, .ref b22, .ref b23, .ref b24, .int (nI xn), .ref b26, .int (nI bb), .int (nI rr), .int (nI pp), .int (nI qq), .ref b31])) := gq
    have sm := sm.up up_4 (by simp)
    refine lv_iload_n hx hb dX9_throwsIf_13 rfl (lv_at hl 1 rfl) ?_
    have hb1 : b.toNat = 1 := by cases b <;> simp_all
    have g33 : ws_3[33]? = some (m0, .inr (10, [.int (nI (b.toNat)), .ref b1, .ref b2, .int (nI len), .int (nI ps), .ref b5, .ref b6, .ref b7, .int (nI nm), .int (nI bt_), .int (nI so), .int (nI wi), .ref b12, .int (nI fm), .ref b14, .ref b15, .ref b16, .int (nI dn), .int (nI ca), .int (nI sta), .ref b20, .ref b21, .ref b22, .ref b23, .ref b24, .int (nI xn), .ref b26, .int (nI bb), .int (nI rr), .int (nI pp), .int (nI qq), .ref b31])) := by rw [hb1]; exact g33
    exact CI.ret (v := (nI b.toNat)) C hK hP hD hS (by cases b <;> decide) (⟨rfl, sm, g33⟩) hc0 hs0 dX9_throwsIf_14
set_option maxHeartbeats 4000000 in
set_option maxRecDepth 100000 in
theorem c_X9_four {D : va_G} {cB cI cJ cO : ClassId} {l : Launch} {m0 b1 b2 b5 b6 b7 b12 b14 b15 b16 b20 b21 b22 b23 b24 b26 b31 th len ps nm bt_ so wi fm dn ca sta xn bb rr pp qq : Nat} {v : Int32} {f : Nat → Int32} {ws : va_W} (g33 : ws[33]? = some (m0, .inr (10, [.int (nI th), .ref b1, .ref b2, .int (nI len), .int (nI ps), .ref b5, .ref b6, .ref b7, .int (nI nm), .int (nI bt_), .int (nI so), .int (nI wi), .ref b12, .int (nI fm), .ref b14, .ref b15, .ref b16, .int (nI dn), .int (nI ca), .int (nI sta), .ref b20, .ref b21, .ref b22, .ref b23, .ref b24, .int (nI xn), .ref b26, .int (nI bb), .int (nI rr), .int (nI pp), .int (nI qq), .ref b31]))) (g34 : ws[34]? = some (b1, .inl (cB, 800, .inl f))) (hlen : len + 4 ≤ 800) : CV D (TY cB cI cJ cO) l yX9_four wsX9_four ({ frames := 0, cells := 0, slots := 0, locals := 0 }) [.ref m0, .int v] ws (fun ws' => Sm (fun k => k = 33 ∨ k = 34) ws ws' ∧ ws'[33]? = some (m0, .inr (10, [.int (nI th), .ref b1, .ref b2, .int (nI (len + 4)), .int (nI ps), .ref b5, .ref b6, .ref b7, .int (nI nm), .int (nI bt_), .int (nI so), .int (nI wi), .ref b12, .int (nI fm), .ref b14, .ref b15, .ref b16, .int (nI dn), .int (nI ca), .int (nI sta), .ref b20, .ref b21, .ref b22, .ref b23, .ref b24, .int (nI xn), .ref b26, .int (nI bb), .int (nI rr), .int (nI pp), .int (nI qq), .ref b31])) ∧ ws'[34]? = some (b1, .inl (cB, 800, .inl (put4 f len v)))) := by
  refine CV.of (cc := cX9_four) (maxL := 3) (ret := none) (by decide) rfl (Nat.le_of_ble_eq_true rfl) ?_
  intro p e s m below meth c A C hK hP hD hA hS ls hl
  obtain ⟨hx, hb, hr, hml, hts, hown, hlocks, hnm⟩ := id C
  have fl_7 := hts (.fieldLink RX9 7 "TwinFinderModel" "length" "I") (by decide +kernel)
  have fl_14 := hts (.fieldLink RX9 14 "TwinFinderModel" "tape" "[B") (by decide +kernel)
  have hin_X9 : ∀ w ∈ u_ws RX9 TX9 32, w ∈ wsX9_four := by decide +kernel
  have hl : lv_has ls 3 [(0, .ref m0), (1, .int v)] := hl
  have sm : Sm (fun k => k = 33 ∨ k = 34) ws ws := Sm.rf
  have hc0 : (0 : Nat) ≤ 0 := by decide
  have hs0 : (0 : Nat) ≤ 0 := by decide
  refine lv_bipush (v := nI 24) hx hb dX9_four_0 (by decide) ?_
  refine lv_istore_n (lv' := [(2, .int (nI 24)), (0, .ref m0), (1, .int v)]) hx hb dX9_four_2 rfl hl (by decide) rfl (fun ls hl => ?_)
  refine lv_iload_n hx hb dX9_four_3 rfl (lv_at hl 0 rfl) ?_
  refine lv_if_lt (tgt := 36) hx hb dX9_four_4 (by decide) (fun c_4 => absurd c_4 (by decide)) (fun c_4 => ?_)
  refine lv_aload_n hx hb dX9_four_7 rfl (lv_at hl 1 rfl) ?_
  refine va_get (D := D) (ci := 10) (v := .ref b1) (C := RX9) (T := TX9) (N := 32) hx hb hts hin_X9 hown hK hP 33 g33 rfl 1 (by decide) fl_14 (fun _ h9 => h9) rfl dX9_four_8 ?_
  refine lv_aload_n hx hb dX9_four_11 rfl (lv_at hl 1 rfl) ?_
  refine va_get (D := D) (ci := 10) (v := .int (nI len)) (C := RX9) (T := TX9) (N := 32) hx hb hts hin_X9 hown hK hP 33 g33 rfl 3 (by decide) fl_7 (fun _ h9 => h9) rfl dX9_four_12 ?_
  refine lv_iload_n hx hb dX9_four_15 rfl (lv_at hl 2 rfl) ?_
  refine lv_iload_n hx hb dX9_four_16 rfl (lv_at hl 0 rfl) ?_
  refine lv_ishr hx hb dX9_four_17 ?_
  refine lv_i2b hx hb dX9_four_18 rfl ?_
  refine nx_bast hx hb hK hP hD hS 34 0 g34 rfl (k := len) (by omega) (by decide) dX9_four_19 (fun ws_1 H locs gq up_2 hP hD hS => ?_)
  have g34 : ws_1[34]? = some (b1, .inl (cB, 800, .inl (upd f len (((v >>> ((nI 24) &&& 31)).toInt8.toInt32).toInt8.toInt32)))) := gq
  have g33 := up_2.get g33 (by decide)
  have sm := sm.up up_2 (by simp)
  refine lv_aload_n hx hb dX9_four_20 rfl (lv_at hl 1 rfl) ?_
  refine lv_dup hx hb dX9_four_21 rfl ?_
  refine va_get (D := D) (ci := 10) (v := .int (nI len)) (C := RX9) (T := TX9) (N := 32) hx hb hts hin_X9 hown hK hP 33 g33 rfl 3 (by decide) fl_7 (fun _ h9 => h9) rfl dX9_four_22 ?_
  refine lv_iconst (v := nI 1) hx hb dX9_four_25 (by decide) ?_
  refine nx_iadd hx hb dX9_four_26 ?_
  refine nx_put (D := D) (ci := 10) (v := .int (nI (len + 1))) (ty := .int) (C := RX9) (T := TX9) (N := 32) hx hb hts hin_X9 tyX9 tyX9_ok nmX9 hown hK hP hD hS 33 g33 rfl 3 (by decide) fl_7 (fun _ h9 => h9) rfl (by decide +kernel) rfl rfl (Nat.le_of_ble_eq_true rfl) dX9_four_27 (fun ws_3 H locs gq up_4 hP hD hS => ?_)
  have g33 : ws_3[33]? = some (m0, .inr (10, [.int (nI th), .ref b1, .ref b2, .int (nI (len + 1)), .int (nI ps), .ref b5, .ref b6, .ref b7, .int (nI nm), .int (nI bt_), .int (nI so), .int (nI wi), .ref b12, .int (nI fm), .ref b14, .ref b15, .ref b16, .int (nI dn), .int (nI ca), .int (nI sta), .ref b20, .ref b21, .ref b22, .ref b23, .ref b24, .int (nI xn), .ref b26, .int (nI bb), .int (nI rr), .int (nI pp), .int (nI qq), .ref b31])) := gq
  have g34 := up_4.get g34 (by decide)
  have sm := sm.up up_4 (by simp)
  refine lv_iinc (v := (nI 16)) (lv' := [(2, .int (nI 16)), (0, .ref m0), (1, .int v)]) hx hb dX9_four_30 hl (k := 0) rfl (by decide) (by decide) rfl (fun ls hl => ?_)
  refine lv_goto (tgt := 3) hx hb dX9_four_33 (by decide) ?_
  refine lv_iload_n hx hb dX9_four_3 rfl (lv_at hl 0 rfl) ?_
  refine lv_if_lt (tgt := 36) hx hb dX9_four_4 (by decide) (fun c_4 => absurd c_4 (by decide)) (fun c_4 => ?_)
  refine lv_aload_n hx hb dX9_four_7 rfl (lv_at hl 1 rfl) ?_
  refine va_get (D := D) (ci := 10) (v := .ref b1) (C := RX9) (T := TX9) (N := 32) hx hb hts hin_X9 hown hK hP 33 g33 rfl 1 (by decide) fl_14 (fun _ h9 => h9) rfl dX9_four_8 ?_
  refine lv_aload_n hx hb dX9_four_11 rfl (lv_at hl 1 rfl) ?_
  refine va_get (D := D) (ci := 10) (v := .int (nI (len + 1))) (C := RX9) (T := TX9) (N := 32) hx hb hts hin_X9 hown hK hP 33 g33 rfl 3 (by decide) fl_7 (fun _ h9 => h9) rfl dX9_four_12 ?_
  refine lv_iload_n hx hb dX9_four_15 rfl (lv_at hl 2 rfl) ?_
  refine lv_iload_n hx hb dX9_four_16 rfl (lv_at hl 0 rfl) ?_
  refine lv_ishr hx hb dX9_four_17 ?_
  refine lv_i2b hx hb dX9_four_18 rfl ?_
  refine nx_bast hx hb hK hP hD hS 34 0 g34 rfl (k := (len + 1)) (by omega) (by decide) dX9_four_19 (fun ws_5 H locs gq up_6 hP hD hS => ?_)
  have g34 : ws_5[34]? = some (b1, .inl (cB, 800, .inl (upd (upd f len (((v >>> ((nI 24) &&& 31)).toInt8.toInt32).toInt8.toInt32)) (len + 1) (((v >>> ((nI 16) &&& 31)).toInt8.toInt32).toInt8.toInt32)))) := gq
  have g33 := up_6.get g33 (by decide)
  have sm := sm.up up_6 (by simp)
  refine lv_aload_n hx hb dX9_four_20 rfl (lv_at hl 1 rfl) ?_
  refine lv_dup hx hb dX9_four_21 rfl ?_
  refine va_get (D := D) (ci := 10) (v := .int (nI (len + 1))) (C := RX9) (T := TX9) (N := 32) hx hb hts hin_X9 hown hK hP 33 g33 rfl 3 (by decide) fl_7 (fun _ h9 => h9) rfl dX9_four_22 ?_
  refine lv_iconst (v := nI 1) hx hb dX9_four_25 (by decide) ?_
  refine nx_iadd hx hb dX9_four_26 ?_
  refine nx_put (D := D) (ci := 10) (v := .int (nI ((len + 1) + 1))) (ty := .int) (C := RX9) (T := TX9) (N := 32) hx hb hts hin_X9 tyX9 tyX9_ok nmX9 hown hK hP hD hS 33 g33 rfl 3 (by decide) fl_7 (fun _ h9 => h9) rfl (by decide +kernel) rfl rfl (Nat.le_of_ble_eq_true rfl) dX9_four_27 (fun ws_7 H locs gq up_8 hP hD hS => ?_)
  have g33 : ws_7[33]? = some (m0, .inr (10, [.int (nI th), .ref b1, .ref b2, .int (nI ((len + 1) + 1)), .int (nI ps), .ref b5, .ref b6, .ref b7, .int (nI nm), .int (nI bt_), .int (nI so), .int (nI wi), .ref b12, .int (nI fm), .ref b14, .ref b15, .ref b16, .int (nI dn), .int (nI ca), .int (nI sta), .ref b20, .ref b21, .ref b22, .ref b23, .ref b24, .int (nI xn), .ref b26, .int (nI bb), .int (nI rr), .int (nI pp), .int (nI qq), .ref b31])) := gq
  have g34 := up_8.get g34 (by decide)
  have sm := sm.up up_8 (by simp)
  refine lv_iinc (v := (nI 8)) (lv' := [(2, .int (nI 8)), (0, .ref m0), (1, .int v)]) hx hb dX9_four_30 hl (k := 0) rfl (by decide) (by decide) rfl (fun ls hl => ?_)
  refine lv_goto (tgt := 3) hx hb dX9_four_33 (by decide) ?_
  refine lv_iload_n hx hb dX9_four_3 rfl (lv_at hl 0 rfl) ?_
  refine lv_if_lt (tgt := 36) hx hb dX9_four_4 (by decide) (fun c_4 => absurd c_4 (by decide)) (fun c_4 => ?_)
  refine lv_aload_n hx hb dX9_four_7 rfl (lv_at hl 1 rfl) ?_
  refine va_get (D := D) (ci := 10) (v := .ref b1) (C := RX9) (T := TX9) (N := 32) hx hb hts hin_X9 hown hK hP 33 g33 rfl 1 (by decide) fl_14 (fun _ h9 => h9) rfl dX9_four_8 ?_
  refine lv_aload_n hx hb dX9_four_11 rfl (lv_at hl 1 rfl) ?_
  refine va_get (D := D) (ci := 10) (v := .int (nI ((len + 1) + 1))) (C := RX9) (T := TX9) (N := 32) hx hb hts hin_X9 hown hK hP 33 g33 rfl 3 (by decide) fl_7 (fun _ h9 => h9) rfl dX9_four_12 ?_
  refine lv_iload_n hx hb dX9_four_15 rfl (lv_at hl 2 rfl) ?_
  refine lv_iload_n hx hb dX9_four_16 rfl (lv_at hl 0 rfl) ?_
  refine lv_ishr hx hb dX9_four_17 ?_
  refine lv_i2b hx hb dX9_four_18 rfl ?_
  refine nx_bast hx hb hK hP hD hS 34 0 g34 rfl (k := ((len + 1) + 1)) (by omega) (by decide) dX9_four_19 (fun ws_9 H locs gq up_10 hP hD hS => ?_)
  have g34 : ws_9[34]? = some (b1, .inl (cB, 800, .inl (upd (upd (upd f len (((v >>> ((nI 24) &&& 31)).toInt8.toInt32).toInt8.toInt32)) (len + 1) (((v >>> ((nI 16) &&& 31)).toInt8.toInt32).toInt8.toInt32)) ((len + 1) + 1) (((v >>> ((nI 8) &&& 31)).toInt8.toInt32).toInt8.toInt32)))) := gq
  have g33 := up_10.get g33 (by decide)
  have sm := sm.up up_10 (by simp)
  refine lv_aload_n hx hb dX9_four_20 rfl (lv_at hl 1 rfl) ?_
  refine lv_dup hx hb dX9_four_21 rfl ?_
  refine va_get (D := D) (ci := 10) (v := .int (nI ((len + 1) + 1))) (C := RX9) (T := TX9) (N := 32) hx hb hts hin_X9 hown hK hP 33 g33 rfl 3 (by decide) fl_7 (fun _ h9 => h9) rfl dX9_four_22 ?_
  refine lv_iconst (v := nI 1) hx hb dX9_four_25 (by decide) ?_
  refine nx_iadd hx hb dX9_four_26 ?_
  refine nx_put (D := D) (ci := 10) (v := .int (nI (((len + 1) + 1) + 1))) (ty := .int) (C := RX9) (T := TX9) (N := 32) hx hb hts hin_X9 tyX9 tyX9_ok nmX9 hown hK hP hD hS 33 g33 rfl 3 (by decide) fl_7 (fun _ h9 => h9) rfl (by decide +kernel) rfl rfl (Nat.le_of_ble_eq_true rfl) dX9_four_27 (fun ws_11 H locs gq up_12 hP hD hS => ?_)
  have g33 : ws_11[33]? = some (m0, .inr (10, [.int (nI th), .ref b1, .ref b2, .int (nI (((len + 1) + 1) + 1)), .int (nI ps), .ref b5, .ref b6, .ref b7, .int (nI nm), .int (nI bt_), .int (nI so), .int (nI wi), .ref b12, .int (nI fm), .ref b14, .ref b15, .ref b16, .int (nI dn), .int (nI ca), .int (nI sta), .ref b20, .ref b21, .ref b22, .ref b23, .ref b24, .int (nI xn), .ref b26, .int (nI bb), .int (nI rr), .int (nI pp), .int (nI qq), .ref b31])) := gq
  have g34 := up_12.get g34 (by decide)
  have sm := sm.up up_12 (by simp)
  refine lv_iinc (v := (nI 0)) (lv' := [(2, .int (nI 0)), (0, .ref m0), (1, .int v)]) hx hb dX9_four_30 hl (k := 0) rfl (by decide) (by decide) rfl (fun ls hl => ?_)
  refine lv_goto (tgt := 3) hx hb dX9_four_33 (by decide) ?_
  refine lv_iload_n hx hb dX9_four_3 rfl (lv_at hl 0 rfl) ?_
  refine lv_if_lt (tgt := 36) hx hb dX9_four_4 (by decide) (fun c_4 => absurd c_4 (by decide)) (fun c_4 => ?_)
  refine lv_aload_n hx hb dX9_four_7 rfl (lv_at hl 1 rfl) ?_
  refine va_get (D := D) (ci := 10) (v := .ref b1) (C := RX9) (T := TX9) (N := 32) hx hb hts hin_X9 hown hK hP 33 g33 rfl 1 (by decide) fl_14 (fun _ h9 => h9) rfl dX9_four_8 ?_
  refine lv_aload_n hx hb dX9_four_11 rfl (lv_at hl 1 rfl) ?_
  refine va_get (D := D) (ci := 10) (v := .int (nI (((len + 1) + 1) + 1))) (C := RX9) (T := TX9) (N := 32) hx hb hts hin_X9 hown hK hP 33 g33 rfl 3 (by decide) fl_7 (fun _ h9 => h9) rfl dX9_four_12 ?_
  refine lv_iload_n hx hb dX9_four_15 rfl (lv_at hl 2 rfl) ?_
  refine lv_iload_n hx hb dX9_four_16 rfl (lv_at hl 0 rfl) ?_
  refine lv_ishr hx hb dX9_four_17 ?_
  refine lv_i2b hx hb dX9_four_18 rfl ?_
  refine nx_bast hx hb hK hP hD hS 34 0 g34 rfl (k := (((len + 1) + 1) + 1)) (by omega) (by decide) dX9_four_19 (fun ws_13 H locs gq up_14 hP hD hS => ?_)
  have g34 : ws_13[34]? = some (b1, .inl (cB, 800, .inl (upd (upd (upd (upd f len (((v >>> ((nI 24) &&& 31)).toInt8.toInt32).toInt8.toInt32)) (len + 1) (((v >>> ((nI 16) &&& 31)).toInt8.toInt32).toInt8.toInt32)) ((len + 1) + 1) (((v >>> ((nI 8) &&& 31)).toInt8.toInt32).toInt8.toInt32)) (((len + 1) + 1) + 1) (((v >>> ((nI 0) &&& 31)).toInt8.toInt32).toInt8.toInt32)))) := gq
  have g33 := up_14.get g33 (by decide)
  have sm := sm.up up_14 (by simp)
  refine lv_aload_n hx hb dX9_four_20 rfl (lv_at hl 1 rfl) ?_
  refine lv_dup hx hb dX9_four_21 rfl ?_
  refine va_get (D := D) (ci := 10) (v := .int (nI (((len + 1) + 1) + 1))) (C := RX9) (T := TX9) (N := 32) hx hb hts hin_X9 hown hK hP 33 g33 rfl 3 (by decide) fl_7 (fun _ h9 => h9) rfl dX9_four_22 ?_
  refine lv_iconst (v := nI 1) hx hb dX9_four_25 (by decide) ?_
  refine nx_iadd hx hb dX9_four_26 ?_
  refine nx_put (D := D) (ci := 10) (v := .int (nI ((((len + 1) + 1) + 1) + 1))) (ty := .int) (C := RX9) (T := TX9) (N := 32) hx hb hts hin_X9 tyX9 tyX9_ok nmX9 hown hK hP hD hS 33 g33 rfl 3 (by decide) fl_7 (fun _ h9 => h9) rfl (by decide +kernel) rfl rfl (Nat.le_of_ble_eq_true rfl) dX9_four_27 (fun ws_15 H locs gq up_16 hP hD hS => ?_)
  have g33 : ws_15[33]? = some (m0, .inr (10, [.int (nI th), .ref b1, .ref b2, .int (nI ((((len + 1) + 1) + 1) + 1)), .int (nI ps), .ref b5, .ref b6, .ref b7, .int (nI nm), .int (nI bt_), .int (nI so), .int (nI wi), .ref b12, .int (nI fm), .ref b14, .ref b15, .ref b16, .int (nI dn), .int (nI ca), .int (nI sta), .ref b20, .ref b21, .ref b22, .ref b23, .ref b24, .int (nI xn), .ref b26, .int (nI bb), .int (nI rr), .int (nI pp), .int (nI qq), .ref b31])) := gq
  have g34 := up_16.get g34 (by decide)
  have sm := sm.up up_16 (by simp)
  refine lv_iinc (v := (-8)) (lv' := [(2, .int (-8)), (0, .ref m0), (1, .int v)]) hx hb dX9_four_30 hl (k := 0) rfl (by decide) (by decide) rfl (fun ls hl => ?_)
  refine lv_goto (tgt := 3) hx hb dX9_four_33 (by decide) ?_
  refine lv_iload_n hx hb dX9_four_3 rfl (lv_at hl 0 rfl) ?_
  refine lv_if_lt (tgt := 36) hx hb dX9_four_4 (by decide) (fun c_4 => ?_) (fun c_4 => absurd (by decide) c_4)
  have g34 : ws_15[34]? = some (b1, .inl (cB, 800, .inl (put4 f len v))) := by
    simp only [i8_twice] at g34
    rw [show (nI 24) = nI (24 - 8 * 0) from rfl, show (nI 16) = nI (24 - 8 * 1) from rfl, show (nI 8) = nI (24 - 8 * 2) from rfl, show (nI 0) = nI (24 - 8 * 3) from rfl, by4_sh v 0 (by decide), by4_sh v 1 (by decide), by4_sh v 2 (by decide), by4_sh v 3 (by decide)] at g34
    exact g34
  exact CV.ret C hK hP hD hS (⟨sm, g33, g34⟩) hc0 hs0 dX9_four_36
set_option maxHeartbeats 4000000 in
set_option maxRecDepth 100000 in
theorem c_X9_end {D : va_G} {cB cI cJ cO : ClassId} {l : Launch} {m0 b1 b2 b5 b6 b7 b12 b14 b15 b16 b20 b21 b22 b23 b24 b26 b31 th len ps nm bt_ so wi fm dn ca sta xn bb rr pp qq : Nat} {x : Int32} {ws : va_W} (g33 : ws[33]? = some (m0, .inr (10, [.int (nI th), .ref b1, .ref b2, .int (nI len), .int (nI ps), .ref b5, .ref b6, .ref b7, .int (nI nm), .int (nI bt_), .int (nI so), .int (nI wi), .ref b12, .int (nI fm), .ref b14, .ref b15, .ref b16, .int (nI dn), .int (nI ca), .int (nI sta), .ref b20, .ref b21, .ref b22, .ref b23, .ref b24, .int (nI xn), .ref b26, .int (nI bb), .int (nI rr), .int (nI pp), .int (nI qq), .ref b31]))) (hlen : len < 2 ^ 31) : CI D (TY cB cI cJ cO) l yX9_end wsX9_end ({ frames := 0, cells := 0, slots := 0, locals := 0 }) [.ref m0, .int x] ws (fun r ws' => r = nI ((tp_ok x len).toNat) ∧ Sm (fun k => k = 33) ws ws' ∧ ws'[33]? = some (m0, .inr (10, [.int (nI 0), .ref b1, .ref b2, .int (nI (tp_cut x len)), .int (nI ps), .ref b5, .ref b6, .ref b7, .int (nI nm), .int (nI bt_), .int (nI so), .int (nI wi), .ref b12, .int (nI fm), .ref b14, .ref b15, .ref b16, .int (nI dn), .int (nI ca), .int (nI sta), .ref b20, .ref b21, .ref b22, .ref b23, .ref b24, .int (nI xn), .ref b26, .int (nI bb), .int (nI rr), .int (nI pp), .int (nI qq), .ref b31]))) := by
  refine CI.of (cc := cX9_end) (maxL := 2) (ret := (some .boolean)) (by decide) rfl (Nat.le_of_ble_eq_true rfl) ?_
  intro p e s m below meth c A C hK hP hD hA hS ls hl
  obtain ⟨hx, hb, hr, hml, hts, hown, hlocks, hnm⟩ := id C
  have fl_1 := hts (.fieldLink RX9 1 "TwinFinderModel" "thrown" "I") (by decide +kernel)
  have fl_7 := hts (.fieldLink RX9 7 "TwinFinderModel" "length" "I") (by decide +kernel)
  have hin_X9 : ∀ w ∈ u_ws RX9 TX9 32, w ∈ wsX9_end := by decide +kernel
  have hl : lv_has ls 2 [(0, .ref m0), (1, .int x)] := hl
  have sm : Sm (fun k => k = 33) ws ws := Sm.rf
  have hc0 : (0 : Nat) ≤ 0 := by decide
  have hs0 : (0 : Nat) ≤ 0 := by decide
  refine lv_aload_n hx hb dX9_end_0 rfl (lv_at hl 0 rfl) ?_
  refine lv_iconst (v := nI 0) hx hb dX9_end_1 (by decide) ?_
  refine nx_put (D := D) (ci := 10) (v := .int (nI 0)) (ty := .int) (C := RX9) (T := TX9) (N := 32) hx hb hts hin_X9 tyX9 tyX9_ok nmX9 hown hK hP hD hS 33 g33 rfl 0 (by decide) fl_1 (fun _ h9 => h9) rfl (by decide +kernel) rfl rfl (Nat.le_of_ble_eq_true rfl) dX9_end_2 (fun ws_1 H locs gq up_2 hP hD hS => ?_)
  have g33 : ws_1[33]? = some (m0, .inr (10, [.int (nI 0), .ref b1, .ref b2, .int (nI len), .int (nI ps), .ref b5, .ref b6, .ref b7, .int (nI nm), .int (nI bt_), .int (nI so), .int (nI wi), .ref b12, .int (nI fm), .ref b14, .ref b15, .ref b16, .int (nI dn), .int (nI ca), .int (nI sta), .ref b20, .ref b21, .ref b22, .ref b23, .ref b24, .int (nI xn), .ref b26, .int (nI bb), .int (nI rr), .int (nI pp), .int (nI qq), .ref b31])) := gq
  have sm := sm.up up_2 (by simp)
  refine lv_iload_n hx hb dX9_end_5 rfl (lv_at hl 1 rfl) ?_
  refine lv_if_lt (tgt := 17) hx hb dX9_end_6 (by decide) (fun c_6 => ?_) (fun c_6 => ?_)
  · refine lv_iconst (v := nI 0) hx hb dX9_end_17 (by decide) ?_
    have hno : tp_ok x len = false := by first | (rw [tp_ok, decide_eq_false c_14, Bool.and_false]) | (rw [tp_ok, decide_eq_false (fun h => h c_6)]; rfl)
    have g33 : ws_1[33]? = some (m0, .inr (10, [.int (nI 0), .ref b1, .ref b2, .int (nI (tp_cut x len)), .int (nI ps), .ref b5, .ref b6, .ref b7, .int (nI nm), .int (nI bt_), .int (nI so), .int (nI wi), .ref b12, .int (nI fm), .ref b14, .ref b15, .ref b16, .int (nI dn), .int (nI ca), .int (nI sta), .ref b20, .ref b21, .ref b22, .ref b23, .ref b24, .int (nI xn), .ref b26, .int (nI bb), .int (nI rr), .int (nI pp), .int (nI qq), .ref b31])) := by rw [tp_no hno]; exact g33
    exact CI.ret (v := (nI 0)) C hK hP hD hS (by decide) (⟨(by rw [hno]; rfl), sm, g33⟩) hc0 hs0 dX9_end_18
  · refine lv_iload_n hx hb dX9_end_9 rfl (lv_at hl 1 rfl) ?_
    refine lv_aload_n hx hb dX9_end_10 rfl (lv_at hl 0 rfl) ?_
    refine va_get (D := D) (ci := 10) (v := .int (nI len)) (C := RX9) (T := TX9) (N := 32) hx hb hts hin_X9 hown hK hP 33 g33 rfl 3 (by decide) fl_7 (fun _ h9 => h9) rfl dX9_end_11 ?_
    refine lv_icmp_le (tgt := 19) hx hb dX9_end_14 (by decide) (fun c_14 => ?_) (fun c_14 => ?_)
    · obtain ⟨j, hj, rfl⟩ : ∃ j : Nat, j ≤ len ∧ x = nI j := nI_of2 (nI_toInt hlen) c_6 c_14
      refine lv_aload_n hx hb dX9_end_19 rfl (lv_at hl 0 rfl) ?_
      refine lv_iload_n hx hb dX9_end_20 rfl (lv_at hl 1 rfl) ?_
      refine nx_put (D := D) (ci := 10) (v := .int (nI j)) (ty := .int) (C := RX9) (T := TX9) (N := 32) hx hb hts hin_X9 tyX9 tyX9_ok nmX9 hown hK hP hD hS 33 g33 rfl 3 (by decide) fl_7 (fun _ h9 => h9) rfl (by decide +kernel) rfl rfl (Nat.le_of_ble_eq_true rfl) dX9_end_21 (fun ws_3 H locs gq up_4 hP hD hS => ?_)
      have g33 : ws_3[33]? = some (m0, .inr (10, [.int (nI 0), .ref b1, .ref b2, .int (nI j), .int (nI ps), .ref b5, .ref b6, .ref b7, .int (nI nm), .int (nI bt_), .int (nI so), .int (nI wi), .ref b12, .int (nI fm), .ref b14, .ref b15, .ref b16, .int (nI dn), .int (nI ca), .int (nI sta), .ref b20, .ref b21, .ref b22, .ref b23, .ref b24, .int (nI xn), .ref b26, .int (nI bb), .int (nI rr), .int (nI pp), .int (nI qq), .ref b31])) := gq
      have sm := sm.up up_4 (by simp)
      refine lv_iconst (v := nI 1) hx hb dX9_end_24 (by decide) ?_
      have g33 : ws_3[33]? = some (m0, .inr (10, [.int (nI 0), .ref b1, .ref b2, .int (nI (tp_cut (nI j) len)), .int (nI ps), .ref b5, .ref b6, .ref b7, .int (nI nm), .int (nI bt_), .int (nI so), .int (nI wi), .ref b12, .int (nI fm), .ref b14, .ref b15, .ref b16, .int (nI dn), .int (nI ca), .int (nI sta), .ref b20, .ref b21, .ref b22, .ref b23, .ref b24, .int (nI xn), .ref b26, .int (nI bb), .int (nI rr), .int (nI pp), .int (nI qq), .ref b31])) := by rw [(tp_yes hj hlen).2]; exact g33
      exact CI.ret (v := (nI 1)) C hK hP hD hS (by decide) (⟨(by rw [(tp_yes hj hlen).1]; rfl), sm, g33⟩) hc0 hs0 dX9_end_25
    · refine lv_iconst (v := nI 0) hx hb dX9_end_17 (by decide) ?_
      have hno : tp_ok x len = false := by first | (rw [tp_ok, decide_eq_false c_14, Bool.and_false]) | (rw [tp_ok, decide_eq_false (fun h => h c_6)]; rfl)
      have g33 : ws_1[33]? = some (m0, .inr (10, [.int (nI 0), .ref b1, .ref b2, .int (nI (tp_cut x len)), .int (nI ps), .ref b5, .ref b6, .ref b7, .int (nI nm), .int (nI bt_), .int (nI so), .int (nI wi), .ref b12, .int (nI fm), .ref b14, .ref b15, .ref b16, .int (nI dn), .int (nI ca), .int (nI sta), .ref b20, .ref b21, .ref b22, .ref b23, .ref b24, .int (nI xn), .ref b26, .int (nI bb), .int (nI rr), .int (nI pp), .int (nI qq), .ref b31])) := by rw [tp_no hno]; exact g33
      exact CI.ret (v := (nI 0)) C hK hP hD hS (by decide) (⟨(by rw [hno]; rfl), sm, g33⟩) hc0 hs0 dX9_end_18
set_option maxHeartbeats 4000000 in
set_option maxRecDepth 100000 in
theorem c_X9_feed {D : va_G} {cB cI cJ cO : ClassId} {l : Launch} {m0 b1 b2 b5 b6 b7 b12 b14 b15 b16 b20 b21 b22 b23 b24 b26 b31 th len ps nm bt_ so wi fm dn ca sta xn bb rr pp qq : Nat} {va vb vc vd ve : Int32} {f : Nat → Int32} {T : List Int32} {ws : va_W} (g33 : ws[33]? = some (m0, .inr (10, [.int (nI th), .ref b1, .ref b2, .int (nI len), .int (nI ps), .ref b5, .ref b6, .ref b7, .int (nI nm), .int (nI bt_), .int (nI so), .int (nI wi), .ref b12, .int (nI fm), .ref b14, .ref b15, .ref b16, .int (nI dn), .int (nI ca), .int (nI sta), .ref b20, .ref b21, .ref b22, .ref b23, .ref b24, .int (nI xn), .ref b26, .int (nI bb), .int (nI rr), .int (nI pp), .int (nI qq), .ref b31]))) (g34 : ws[34]? = some (b1, .inl (cB, 800, .inl f))) (hT : Hd f T) (hlen : T.length = len) (h8 : len ≤ 800) : CI D (TY cB cI cJ cO) l yX9_feed wsX9_feed ({ frames := 1, cells := 0, slots := 0, locals := 22 }) [.ref m0, .int va, .int vb, .int vc, .int vd, .int ve] ws (fun r ws' => ∃ fq : Nat → Int32, r = fedR T ∧ Hd fq (fedT T va vb vc vd ve) ∧ Sm (fun k => k = 33 ∨ k = 34) ws ws' ∧ ws'[33]? = some (m0, .inr (10, [.int (nI 0), .ref b1, .ref b2, .int (nI ((fedT T va vb vc vd ve).length)), .int (nI ps), .ref b5, .ref b6, .ref b7, .int (nI nm), .int (nI bt_), .int (nI so), .int (nI wi), .ref b12, .int (nI fm), .ref b14, .ref b15, .ref b16, .int (nI dn), .int (nI ca), .int (nI sta), .ref b20, .ref b21, .ref b22, .ref b23, .ref b24, .int (nI xn), .ref b26, .int (nI bb), .int (nI rr), .int (nI pp), .int (nI qq), .ref b31])) ∧ ws'[34]? = some (b1, .inl (cB, 800, .inl fq))) := by
  refine CI.of (cc := cX9_feed) (maxL := 6) (ret := (some .int)) (by decide) rfl (Nat.le_of_ble_eq_true rfl) ?_
  intro p e s m below meth c A C hK hP hD hA hS ls hl
  obtain ⟨hx, hb, hr, hml, hts, hown, hlocks, hnm⟩ := id C
  have fl_1 := hts (.fieldLink RX9 1 "TwinFinderModel" "thrown" "I") (by decide +kernel)
  have fl_7 := hts (.fieldLink RX9 7 "TwinFinderModel" "length" "I") (by decide +kernel)
  have hin_X9 : ∀ w ∈ u_ws RX9 TX9 32, w ∈ wsX9_feed := by decide +kernel
  have hl : lv_has ls 6 [(0, .ref m0), (1, .int va), (2, .int vb), (3, .int vc), (4, .int vd), (5, .int ve)] := hl
  have sm : Sm (fun k => k = 33 ∨ k = 34) ws ws := Sm.rf
  have hc0 : (0 : Nat) ≤ 0 := by decide
  have hs0 : (0 : Nat) ≤ 0 := by decide
  refine lv_aload_n hx hb dX9_feed_0 rfl (lv_at hl 0 rfl) ?_
  refine lv_iconst (v := nI 0) hx hb dX9_feed_1 (by decide) ?_
  refine nx_put (D := D) (ci := 10) (v := .int (nI 0)) (ty := .int) (C := RX9) (T := TX9) (N := 32) hx hb hts hin_X9 tyX9 tyX9_ok nmX9 hown hK hP hD hS 33 g33 rfl 0 (by decide) fl_1 (fun _ h9 => h9) rfl (by decide +kernel) rfl rfl (Nat.le_of_ble_eq_true rfl) dX9_feed_2 (fun ws_1 H locs gq up_2 hP hD hS => ?_)
  have g33 : ws_1[33]? = some (m0, .inr (10, [.int (nI 0), .ref b1, .ref b2, .int (nI len), .int (nI ps), .ref b5, .ref b6, .ref b7, .int (nI nm), .int (nI bt_), .int (nI so), .int (nI wi), .ref b12, .int (nI fm), .ref b14, .ref b15, .ref b16, .int (nI dn), .int (nI ca), .int (nI sta), .ref b20, .ref b21, .ref b22, .ref b23, .ref b24, .int (nI xn), .ref b26, .int (nI bb), .int (nI rr), .int (nI pp), .int (nI qq), .ref b31])) := gq
  have g34 := up_2.get g34 (by decide)
  have sm := sm.up up_2 (by simp)
  refine lv_aload_n hx hb dX9_feed_5 rfl (lv_at hl 0 rfl) ?_
  refine va_get (D := D) (ci := 10) (v := .int (nI len)) (C := RX9) (T := TX9) (N := 32) hx hb hts hin_X9 hown hK hP 33 g33 rfl 3 (by decide) fl_7 (fun _ h9 => h9) rfl dX9_feed_6 ?_
  refine lv_bipush (v := nI 20) hx hb dX9_feed_9 (by decide) ?_
  refine nx_iadd hx hb dX9_feed_11 ?_
  refine lv_sipush (v := nI 800) hx hb dX9_feed_12 (by decide) ?_
  refine nx_icmp_le (tgt := 20) hx hb (by omega) (by omega) dX9_feed_15 (by decide) (fun c_15 => ?_) (fun c_15 => ?_)
  · refine lv_aload_n hx hb dX9_feed_20 rfl (lv_at hl 0 rfl) ?_
    refine lv_iload_n hx hb dX9_feed_21 rfl (lv_at hl 1 rfl) ?_
    refine CV.go (va_runV (As := [.int va]) (rest := []) ⟨hx, hb, hml, hown, hts⟩ (c_X9_four  g33 g34 (by omega) _) (cwV 1 hts gX9_feed_X9_four rfl rfl rfl (by decide +kernel) ⟨Nat.le_of_ble_eq_true rfl, Nat.le_of_ble_eq_true rfl⟩) ⟨pw_blind, va_recv hK hP (ci := 10) (q0 := 33) rfl g33, fun U hU hW => pw_pre hK hP hD hU hW⟩ rfl rfl hl.1 rfl (lv_room (Nat.le_of_ble_eq_true rfl)) dX9_feed_22 ⟨by decide, by decide⟩) hD hS hA (fun ws_4 H locs hp hP hD hS => ?_)
    obtain ⟨sm_5, g33, g34⟩ := hp
    have sm := sm.call sm_5 (by intro k hk; (try simp only at hk ⊢); omega)
    have g33 : ws_4[33]? = some (m0, .inr (10, [.int (nI 0), .ref b1, .ref b2, .int (nI (len + 4)), .int (nI ps), .ref b5, .ref b6, .ref b7, .int (nI nm), .int (nI bt_), .int (nI so), .int (nI wi), .ref b12, .int (nI fm), .ref b14, .ref b15, .ref b16, .int (nI dn), .int (nI ca), .int (nI sta), .ref b20, .ref b21, .ref b22, .ref b23, .ref b24, .int (nI xn), .ref b26, .int (nI bb), .int (nI rr), .int (nI pp), .int (nI qq), .ref b31])) := g33
    have g34 : ws_4[34]? = some (b1, .inl (cB, 800, .inl (put4 f len va))) := g34
    refine lv_aload_n hx hb dX9_feed_25 rfl (lv_at hl 0 rfl) ?_
    refine lv_iload_n hx hb dX9_feed_26 rfl (lv_at hl 2 rfl) ?_
    refine CV.go (va_runV (As := [.int vb]) (rest := []) ⟨hx, hb, hml, hown, hts⟩ (c_X9_four  g33 g34 (by omega) _) (cwV 1 hts gX9_feed_X9_four rfl rfl rfl (by decide +kernel) ⟨Nat.le_of_ble_eq_true rfl, Nat.le_of_ble_eq_true rfl⟩) ⟨pw_blind, va_recv hK hP (ci := 10) (q0 := 33) rfl g33, fun U hU hW => pw_pre hK hP hD hU hW⟩ rfl rfl hl.1 rfl (lv_room (Nat.le_of_ble_eq_true rfl)) dX9_feed_27 ⟨by decide, by decide⟩) hD hS hA (fun ws_7 H locs hp hP hD hS => ?_)
    obtain ⟨sm_8, g33, g34⟩ := hp
    have sm := sm.call sm_8 (by intro k hk; (try simp only at hk ⊢); omega)
    have g33 : ws_7[33]? = some (m0, .inr (10, [.int (nI 0), .ref b1, .ref b2, .int (nI ((len + 4) + 4)), .int (nI ps), .ref b5, .ref b6, .ref b7, .int (nI nm), .int (nI bt_), .int (nI so), .int (nI wi), .ref b12, .int (nI fm), .ref b14, .ref b15, .ref b16, .int (nI dn), .int (nI ca), .int (nI sta), .ref b20, .ref b21, .ref b22, .ref b23, .ref b24, .int (nI xn), .ref b26, .int (nI bb), .int (nI rr), .int (nI pp), .int (nI qq), .ref b31])) := g33
    have g34 : ws_7[34]? = some (b1, .inl (cB, 800, .inl (put4 (put4 f len va) (len + 4) vb))) := g34
    refine lv_aload_n hx hb dX9_feed_30 rfl (lv_at hl 0 rfl) ?_
    refine lv_iload_n hx hb dX9_feed_31 rfl (lv_at hl 3 rfl) ?_
    refine CV.go (va_runV (As := [.int vc]) (rest := []) ⟨hx, hb, hml, hown, hts⟩ (c_X9_four  g33 g34 (by omega) _) (cwV 1 hts gX9_feed_X9_four rfl rfl rfl (by decide +kernel) ⟨Nat.le_of_ble_eq_true rfl, Nat.le_of_ble_eq_true rfl⟩) ⟨pw_blind, va_recv hK hP (ci := 10) (q0 := 33) rfl g33, fun U hU hW => pw_pre hK hP hD hU hW⟩ rfl rfl hl.1 rfl (lv_room (Nat.le_of_ble_eq_true rfl)) dX9_feed_32 ⟨by decide, by decide⟩) hD hS hA (fun ws_10 H locs hp hP hD hS => ?_)
    obtain ⟨sm_11, g33, g34⟩ := hp
    have sm := sm.call sm_11 (by intro k hk; (try simp only at hk ⊢); omega)
    have g33 : ws_10[33]? = some (m0, .inr (10, [.int (nI 0), .ref b1, .ref b2, .int (nI (((len + 4) + 4) + 4)), .int (nI ps), .ref b5, .ref b6, .ref b7, .int (nI nm), .int (nI bt_), .int (nI so), .int (nI wi), .ref b12, .int (nI fm), .ref b14, .ref b15, .ref b16, .int (nI dn), .int (nI ca), .int (nI sta), .ref b20, .ref b21, .ref b22, .ref b23, .ref b24, .int (nI xn), .ref b26, .int (nI bb), .int (nI rr), .int (nI pp), .int (nI qq), .ref b31])) := g33
    have g34 : ws_10[34]? = some (b1, .inl (cB, 800, .inl (put4 (put4 (put4 f len va) (len + 4) vb) ((len + 4) + 4) vc))) := g34
    refine lv_aload_n hx hb dX9_feed_35 rfl (lv_at hl 0 rfl) ?_
    refine lv_iload hx hb dX9_feed_36 (lv_at hl 4 rfl) ?_
    refine CV.go (va_runV (As := [.int vd]) (rest := []) ⟨hx, hb, hml, hown, hts⟩ (c_X9_four  g33 g34 (by omega) _) (cwV 1 hts gX9_feed_X9_four rfl rfl rfl (by decide +kernel) ⟨Nat.le_of_ble_eq_true rfl, Nat.le_of_ble_eq_true rfl⟩) ⟨pw_blind, va_recv hK hP (ci := 10) (q0 := 33) rfl g33, fun U hU hW => pw_pre hK hP hD hU hW⟩ rfl rfl hl.1 rfl (lv_room (Nat.le_of_ble_eq_true rfl)) dX9_feed_38 ⟨by decide, by decide⟩) hD hS hA (fun ws_13 H locs hp hP hD hS => ?_)
    obtain ⟨sm_14, g33, g34⟩ := hp
    have sm := sm.call sm_14 (by intro k hk; (try simp only at hk ⊢); omega)
    have g33 : ws_13[33]? = some (m0, .inr (10, [.int (nI 0), .ref b1, .ref b2, .int (nI ((((len + 4) + 4) + 4) + 4)), .int (nI ps), .ref b5, .ref b6, .ref b7, .int (nI nm), .int (nI bt_), .int (nI so), .int (nI wi), .ref b12, .int (nI fm), .ref b14, .ref b15, .ref b16, .int (nI dn), .int (nI ca), .int (nI sta), .ref b20, .ref b21, .ref b22, .ref b23, .ref b24, .int (nI xn), .ref b26, .int (nI bb), .int (nI rr), .int (nI pp), .int (nI qq), .ref b31])) := g33
    have g34 : ws_13[34]? = some (b1, .inl (cB, 800, .inl (put4 (put4 (put4 (put4 f len va) (len + 4) vb) ((len + 4) + 4) vc) (((len + 4) + 4) + 4) vd))) := g34
    refine lv_aload_n hx hb dX9_feed_41 rfl (lv_at hl 0 rfl) ?_
    refine lv_iload hx hb dX9_feed_42 (lv_at hl 5 rfl) ?_
    refine CV.go (va_runV (As := [.int ve]) (rest := []) ⟨hx, hb, hml, hown, hts⟩ (c_X9_four  g33 g34 (by omega) _) (cwV 1 hts gX9_feed_X9_four rfl rfl rfl (by decide +kernel) ⟨Nat.le_of_ble_eq_true rfl, Nat.le_of_ble_eq_true rfl⟩) ⟨pw_blind, va_recv hK hP (ci := 10) (q0 := 33) rfl g33, fun U hU hW => pw_pre hK hP hD hU hW⟩ rfl rfl hl.1 rfl (lv_room (Nat.le_of_ble_eq_true rfl)) dX9_feed_44 ⟨by decide, by decide⟩) hD hS hA (fun ws_16 H locs hp hP hD hS => ?_)
    obtain ⟨sm_17, g33, g34⟩ := hp
    have sm := sm.call sm_17 (by intro k hk; (try simp only at hk ⊢); omega)
    have g33 : ws_16[33]? = some (m0, .inr (10, [.int (nI 0), .ref b1, .ref b2, .int (nI (((((len + 4) + 4) + 4) + 4) + 4)), .int (nI ps), .ref b5, .ref b6, .ref b7, .int (nI nm), .int (nI bt_), .int (nI so), .int (nI wi), .ref b12, .int (nI fm), .ref b14, .ref b15, .ref b16, .int (nI dn), .int (nI ca), .int (nI sta), .ref b20, .ref b21, .ref b22, .ref b23, .ref b24, .int (nI xn), .ref b26, .int (nI bb), .int (nI rr), .int (nI pp), .int (nI qq), .ref b31])) := g33
    have g34 : ws_16[34]? = some (b1, .inl (cB, 800, .inl (put4 (put4 (put4 (put4 (put4 f len va) (len + 4) vb) ((len + 4) + 4) vc) (((len + 4) + 4) + 4) vd) ((((len + 4) + 4) + 4) + 4) ve))) := g34
    refine lv_aload_n hx hb dX9_feed_47 rfl (lv_at hl 0 rfl) ?_
    refine va_get (D := D) (ci := 10) (v := .int (nI (((((len + 4) + 4) + 4) + 4) + 4))) (C := RX9) (T := TX9) (N := 32) hx hb hts hin_X9 hown hK hP 33 g33 rfl 3 (by decide) fl_7 (fun _ h9 => h9) rfl dX9_feed_48 ?_
    have hyes : T.length + 20 ≤ 800 := by omega
    have h5 := put4_hd (v := ve) (put4_hd (v := vd) (put4_hd (v := vc) (put4_hd (v := vb) (put4_hd (v := va) hT))))
    simp only [List.length_append, bytes4, List.length_cons, List.length_nil, hlen, Nat.zero_add] at h5
    have hl5 : (fedT T va vb vc vd ve).length = len + 20 := by rw [fedT, if_pos hyes, ← hlen]; simp [bytes4]
    have g33 : ws_16[33]? = some (m0, .inr (10, [.int (nI 0), .ref b1, .ref b2, .int (nI ((fedT T va vb vc vd ve).length)), .int (nI ps), .ref b5, .ref b6, .ref b7, .int (nI nm), .int (nI bt_), .int (nI so), .int (nI wi), .ref b12, .int (nI fm), .ref b14, .ref b15, .ref b16, .int (nI dn), .int (nI ca), .int (nI sta), .ref b20, .ref b21, .ref b22, .ref b23, .ref b24, .int (nI xn), .ref b26, .int (nI bb), .int (nI rr), .int (nI pp), .int (nI qq), .ref b31])) := by rw [hl5]; exact g33
    exact CI.ret (v := (nI (((((len + 4) + 4) + 4) + 4) + 4))) C hK hP hD hS rfl (⟨_, (by rw [fedR, if_pos hyes, ← hlen]), (by rw [fedT, if_pos hyes]; exact h5), sm, g33, g34⟩) hc0 hs0 dX9_feed_51
  · refine lv_iconst (v := -1) hx hb dX9_feed_18 (by decide) ?_
    have hno : ¬ T.length + 20 ≤ 800 := by omega
    have g33 : ws_1[33]? = some (m0, .inr (10, [.int (nI 0), .ref b1, .ref b2, .int (nI ((fedT T va vb vc vd ve).length)), .int (nI ps), .ref b5, .ref b6, .ref b7, .int (nI nm), .int (nI bt_), .int (nI so), .int (nI wi), .ref b12, .int (nI fm), .ref b14, .ref b15, .ref b16, .int (nI dn), .int (nI ca), .int (nI sta), .ref b20, .ref b21, .ref b22, .ref b23, .ref b24, .int (nI xn), .ref b26, .int (nI bb), .int (nI rr), .int (nI pp), .int (nI qq), .ref b31])) := by rw [fedT, if_neg hno, hlen]; exact g33
    exact CI.ret (v := (-1)) C hK hP hD hS rfl (⟨f, (by rw [fedR, if_neg hno]), (by rw [fedT, if_neg hno]; exact hT), sm, g33, g34⟩) hc0 hs0 dX9_feed_19
set_option maxHeartbeats 4000000 in
set_option maxRecDepth 100000 in
theorem c_X9_slot {D : va_G} {cB cI cJ cO : ClassId} {l : Launch} {m0 b1 b2 b5 b6 b7 b12 b14 b15 b16 b20 b21 b22 b23 b24 b26 b31 th len ps nm bt_ so wi fm dn ca sta xn bb rr pp qq : Nat} {x : Int32} {g : Nat → Nat} {N : List Nat} {ws : va_W} (g33 : ws[33]? = some (m0, .inr (10, [.int (nI th), .ref b1, .ref b2, .int (nI len), .int (nI ps), .ref b5, .ref b6, .ref b7, .int (nI nm), .int (nI bt_), .int (nI so), .int (nI wi), .ref b12, .int (nI fm), .ref b14, .ref b15, .ref b16, .int (nI dn), .int (nI ca), .int (nI sta), .ref b20, .ref b21, .ref b22, .ref b23, .ref b24, .int (nI xn), .ref b26, .int (nI bb), .int (nI rr), .int (nI pp), .int (nI qq), .ref b31]))) (g40 : ws[40]? = some (b14, .inl (cI, 48, .inl (fun j => nI (g j))))) (hN : HdN g N) (hd : N.length = dn) (h48 : dn ≤ 48) : CI D (TY cB cI cJ cO) l yX9_slot wsX9_slot ({ frames := 0, cells := 0, slots := 0, locals := 0 }) [.ref m0, .int x] ws (fun r ws' => r = optI (slotOf N x) ∧ ws = ws') := by
  refine CI.of (cc := cX9_slot) (maxL := 3) (ret := (some .int)) (by decide) rfl (Nat.le_of_ble_eq_true rfl) ?_
  intro p e s m below meth c A C hK hP hD hA hS ls hl
  obtain ⟨hx, hb, hr, hml, hts, hown, hlocks, hnm⟩ := id C
  have fl_65 := hts (.fieldLink RX9 65 "TwinFinderModel" "documents" "I") (by decide +kernel)
  have fl_81 := hts (.fieldLink RX9 81 "TwinFinderModel" "number" "[I") (by decide +kernel)
  have hin_X9 : ∀ w ∈ u_ws RX9 TX9 32, w ∈ wsX9_slot := by decide +kernel
  have hl : lv_has ls 3 [(0, .ref m0), (1, .int x)] := hl
  have sm : Sm (fun _ => False) ws ws := Sm.rf
  have hc0 : (0 : Nat) ≤ 0 := by decide
  have hs0 : (0 : Nat) ≤ 0 := by decide
  refine lv_iconst (v := nI 0) hx hb dX9_slot_0 (by decide) ?_
  refine lv_istore_n (lv' := [(2, .int (nI 0)), (0, .ref m0), (1, .int x)]) hx hb dX9_slot_1 rfl hl (by decide) rfl (fun ls hl => ?_)
  have lp_2 : ∀ (fuel : Nat) (i : Nat), dn - i < fuel → (i ≤ dn) → (∀ j (hj : j < N.length), j < i → ¬ nI N[j] = x) → ∀ (H : Heap) (locs : List Loc) (ls : Array Slot),  va_P D vwCl ws H → va_D A ws → va_S A s.heap H locs → lv_has ls 3 [(0, .ref m0), (1, .int x), (2, .int (nI i))] → W p l e ({ frames := 0, cells := 0, slots := 0, locals := 0 }) s m ([.ref m0, .int x] : List Value).toArray below meth c H locs 0 0 (ZI D (TY cB cI cJ cO) (fun r ws' => r = optI (slotOf N x) ∧ ws = ws') below [.ref m0, .int x] s 0 0 A) (F0 m 2 ls []) := by
    intro fuel
    induction fuel with
    | zero => intro i hfu; exact absurd hfu (Nat.not_lt_zero _)
    | succ fuel ih_2 =>
      intro i hfu_2 hi hno H locs ls hP hD hS hl
      refine lv_iload_n hx hb dX9_slot_2 rfl (lv_at hl 2 rfl) ?_
      refine lv_aload_n hx hb dX9_slot_3 rfl (lv_at hl 0 rfl) ?_
      refine va_get (D := D) (ci := 10) (v := .int (nI dn)) (C := RX9) (T := TX9) (N := 32) hx hb hts hin_X9 hown hK hP 33 g33 rfl 17 (by decide) fl_65 (fun _ h9 => h9) rfl dX9_slot_4 ?_
      refine nx_icmp_ge (tgt := 28) hx hb (by omega) (by omega) dX9_slot_7 (by decide) (fun c_7 => ?_) (fun c_7 => ?_)
      · refine lv_iconst (v := -1) hx hb dX9_slot_28 (by decide) ?_
        exact CI.ret (v := (-1)) C hK hP hD hS rfl (⟨(by rw [slotOf_none (fun j hj => hno j hj (by omega))]; rfl), rfl⟩) hc0 hs0 dX9_slot_29
      · refine lv_aload_n hx hb dX9_slot_10 rfl (lv_at hl 0 rfl) ?_
        refine va_get (D := D) (ci := 10) (v := .ref b14) (C := RX9) (T := TX9) (N := 32) hx hb hts hin_X9 hown hK hP 33 g33 rfl 14 (by decide) fl_81 (fun _ h9 => h9) rfl dX9_slot_11 ?_
        refine lv_iload_n hx hb dX9_slot_14 rfl (lv_at hl 2 rfl) ?_
        refine nx_iald hx hb hK hP 40 1 g40 rfl (k := i) (by omega) (by decide) dX9_slot_15 ?_
        refine lv_iload_n hx hb dX9_slot_16 rfl (lv_at hl 1 rfl) ?_
        refine lv_icmp_ne (tgt := 22) hx hb dX9_slot_17 (by decide) (fun c_17 => ?_) (fun c_17 => ?_)
        · have c_17 : ¬ nI N[i] = x := by rw [← hN.at (by omega)]; exact c_17
          refine lv_iinc (v := (nI (i + 1))) (lv' := [(2, .int (nI (i + 1))), (0, .ref m0), (1, .int x)]) hx hb dX9_slot_22 hl (k := 2) rfl (nx_inc _ 1) (by decide) rfl (fun ls hl => ?_)
          refine lv_goto (tgt := 2) hx hb dX9_slot_25 (by decide) ?_
          exact ih_2 _ (by omega) (by omega) (fun j hj h1 => (Nat.lt_or_eq_of_le (Nat.le_of_lt_succ h1)).elim (hno j hj) (fun e2 => by subst e2; exact c_17)) _ _ _  hP hD hS (lv_sub hl [1, 2, 0] rfl)
        · have c_17 : nI N[i] = x := by rw [← hN.at (by omega)]; exact c_17
          refine lv_iload_n hx hb dX9_slot_20 rfl (lv_at hl 2 rfl) ?_
          exact CI.ret (v := (nI i)) C hK hP hD hS rfl (⟨(by rw [slotOf_some (by omega) c_17 hno]; rfl), rfl⟩) hc0 hs0 dX9_slot_21
  exact lp_2 _ _ (Nat.lt_succ_self _) (Nat.zero_le _) (fun j _ hj => absurd hj (Nat.not_lt_zero j)) _ _ _  hP hD hS (lv_sub hl [1, 2, 0] rfl)
set_option maxHeartbeats 4000000 in
set_option maxRecDepth 100000 in
theorem c_X9_isNone {D : va_G} {cB cI cJ cO : ClassId} {l : Launch} {v lo hi : Int32} {ws : va_W}   : CI D (TY cB cI cJ cO) l yX9_isNone wsX9_isNone ({ frames := 0, cells := 0, slots := 0, locals := 0 }) [.int v, .int lo, .int hi] ws (fun r ws' => r = nI ((isOut v lo hi).toNat) ∧ ws = ws') := by
  refine CI.of (cc := cX9_isNone) (maxL := 3) (ret := (some .boolean)) (by decide) rfl (Nat.le_of_ble_eq_true rfl) ?_
  intro p e s m below meth c A C hK hP hD hA hS ls hl
  obtain ⟨hx, hb, hr, hml, hts, hown, hlocks, hnm⟩ := id C
  have hl : lv_has ls 3 [(0, .int v), (1, .int lo), (2, .int hi)] := hl
  have sm : Sm (fun _ => False) ws ws := Sm.rf
  have hc0 : (0 : Nat) ≤ 0 := by decide
  have hs0 : (0 : Nat) ≤ 0 := by decide
  refine lv_iload_n hx hb dX9_isNone_0 rfl (lv_at hl 0 rfl) ?_
  refine lv_iload_n hx hb dX9_isNone_1 rfl (lv_at hl 1 rfl) ?_
  refine lv_icmp_lt (tgt := 10) hx hb dX9_isNone_2 (by decide) (fun c_2 => ?_) (fun c_2 => ?_)
  · refine lv_iconst (v := nI 1) hx hb dX9_isNone_10 (by decide) ?_
    refine lv_goto (tgt := 15) hx hb dX9_isNone_11 (by decide) ?_
    exact CI.ret (v := (nI 1)) C hK hP hD hS (by decide) (⟨(by simp [isOut, c_2]), rfl⟩) hc0 hs0 dX9_isNone_15
  · refine lv_iload_n hx hb dX9_isNone_5 rfl (lv_at hl 0 rfl) ?_
    refine lv_iload_n hx hb dX9_isNone_6 rfl (lv_at hl 2 rfl) ?_
    refine lv_icmp_le (tgt := 14) hx hb dX9_isNone_7 (by decide) (fun c_7 => ?_) (fun c_7 => ?_)
    · refine lv_iconst (v := nI 0) hx hb dX9_isNone_14 (by decide) ?_
      exact CI.ret (v := (nI 0)) C hK hP hD hS (by decide) (⟨(by simp [isOut, c_2, c_7]), rfl⟩) hc0 hs0 dX9_isNone_15
    · refine lv_iconst (v := nI 1) hx hb dX9_isNone_10 (by decide) ?_
      refine lv_goto (tgt := 15) hx hb dX9_isNone_11 (by decide) ?_
      exact CI.ret (v := (nI 1)) C hK hP hD hS (by decide) (⟨(by simp [isOut, c_2, c_7]), rfl⟩) hc0 hs0 dX9_isNone_15
set_option maxHeartbeats 4000000 in
set_option maxRecDepth 100000 in
theorem c_X9_bands {D : va_G} {cB cI cJ cO : ClassId} {l : Launch} {m0 b1 b2 b5 b6 b7 b12 b14 b15 b16 b20 b21 b22 b23 b24 b26 b31 th len ps nm bt_ so wi fm dn ca sta xn bb rr pp qq : Nat} {b r_ : Int32} {ws : va_W} (g33 : ws[33]? = some (m0, .inr (10, [.int (nI th), .ref b1, .ref b2, .int (nI len), .int (nI ps), .ref b5, .ref b6, .ref b7, .int (nI nm), .int (nI bt_), .int (nI so), .int (nI wi), .ref b12, .int (nI fm), .ref b14, .ref b15, .ref b16, .int (nI dn), .int (nI ca), .int (nI sta), .ref b20, .ref b21, .ref b22, .ref b23, .ref b24, .int (nI xn), .ref b26, .int (nI bb), .int (nI rr), .int (nI pp), .int (nI qq), .ref b31])))  : CI D (TY cB cI cJ cO) l yX9_bands wsX9_bands ({ frames := 0, cells := 0, slots := 0, locals := 0 }) [.ref m0, .int b, .int r_] ws (fun r ws' => r = nI ((bandOk b r_).toNat) ∧ Sm (fun k => k = 33) ws ws' ∧ ws'[33]? = some (m0, .inr (10, [.int (nI 0), .ref b1, .ref b2, .int (nI len), .int (nI ps), .ref b5, .ref b6, .ref b7, .int (nI nm), .int (nI bt_), .int (nI so), .int (nI wi), .ref b12, .int (nI fm), .ref b14, .ref b15, .ref b16, .int (nI dn), .int (nI ca), .int (nI sta), .ref b20, .ref b21, .ref b22, .ref b23, .ref b24, .int (nI xn), .ref b26, .int (nI (bandN b r_ bb)), .int (nI (bandN2 b r_ rr)), .int (nI pp), .int (nI qq), .ref b31]))) := by
  refine CI.of (cc := cX9_bands) (maxL := 3) (ret := (some .boolean)) (by decide) rfl (Nat.le_of_ble_eq_true rfl) ?_
  intro p e s m below meth c A C hK hP hD hA hS ls hl
  obtain ⟨hx, hb, hr, hml, hts, hown, hlocks, hnm⟩ := id C
  have fl_1 := hts (.fieldLink RX9 1 "TwinFinderModel" "thrown" "I") (by decide +kernel)
  have fl_121 := hts (.fieldLink RX9 121 "TwinFinderModel" "bands" "I") (by decide +kernel)
  have fl_124 := hts (.fieldLink RX9 124 "TwinFinderModel" "rows" "I") (by decide +kernel)
  have hin_X9 : ∀ w ∈ u_ws RX9 TX9 32, w ∈ wsX9_bands := by decide +kernel
  have hl : lv_has ls 3 [(0, .ref m0), (1, .int b), (2, .int r_)] := hl
  have sm : Sm (fun k => k = 33) ws ws := Sm.rf
  have hc0 : (0 : Nat) ≤ 0 := by decide
  have hs0 : (0 : Nat) ≤ 0 := by decide
  refine lv_aload_n hx hb dX9_bands_0 rfl (lv_at hl 0 rfl) ?_
  refine lv_iconst (v := nI 0) hx hb dX9_bands_1 (by decide) ?_
  refine nx_put (D := D) (ci := 10) (v := .int (nI 0)) (ty := .int) (C := RX9) (T := TX9) (N := 32) hx hb hts hin_X9 tyX9 tyX9_ok nmX9 hown hK hP hD hS 33 g33 rfl 0 (by decide) fl_1 (fun _ h9 => h9) rfl (by decide +kernel) rfl rfl (Nat.le_of_ble_eq_true rfl) dX9_bands_2 (fun ws_1 H locs gq up_2 hP hD hS => ?_)
  have g33 : ws_1[33]? = some (m0, .inr (10, [.int (nI 0), .ref b1, .ref b2, .int (nI len), .int (nI ps), .ref b5, .ref b6, .ref b7, .int (nI nm), .int (nI bt_), .int (nI so), .int (nI wi), .ref b12, .int (nI fm), .ref b14, .ref b15, .ref b16, .int (nI dn), .int (nI ca), .int (nI sta), .ref b20, .ref b21, .ref b22, .ref b23, .ref b24, .int (nI xn), .ref b26, .int (nI bb), .int (nI rr), .int (nI pp), .int (nI qq), .ref b31])) := gq
  have sm := sm.up up_2 (by simp)
  refine lv_iload_n hx hb dX9_bands_5 rfl (lv_at hl 1 rfl) ?_
  refine lv_iconst (v := nI 1) hx hb dX9_bands_6 (by decide) ?_
  refine lv_icmp_lt (tgt := 35) hx hb dX9_bands_7 (by decide) (fun c_7 => ?_) (fun c_7 => ?_)
  · refine lv_iconst (v := nI 0) hx hb dX9_bands_35 (by decide) ?_
    have hno : bandOk b r_ = false := by simp [bandOk, c_7]
    have g33 : ws_1[33]? = some (m0, .inr (10, [.int (nI 0), .ref b1, .ref b2, .int (nI len), .int (nI ps), .ref b5, .ref b6, .ref b7, .int (nI nm), .int (nI bt_), .int (nI so), .int (nI wi), .ref b12, .int (nI fm), .ref b14, .ref b15, .ref b16, .int (nI dn), .int (nI ca), .int (nI sta), .ref b20, .ref b21, .ref b22, .ref b23, .ref b24, .int (nI xn), .ref b26, .int (nI (bandN b r_ bb)), .int (nI (bandN2 b r_ rr)), .int (nI pp), .int (nI qq), .ref b31])) := by rw [bandN, bandN2, hno]; exact g33
    exact CI.ret (v := (nI 0)) C hK hP hD hS (by decide) (⟨(by rw [hno]; rfl), sm, g33⟩) hc0 hs0 dX9_bands_36
  · refine lv_iload_n hx hb dX9_bands_10 rfl (lv_at hl 2 rfl) ?_
    refine lv_iconst (v := nI 1) hx hb dX9_bands_11 (by decide) ?_
    refine lv_icmp_lt (tgt := 35) hx hb dX9_bands_12 (by decide) (fun c_12 => ?_) (fun c_12 => ?_)
    · refine lv_iconst (v := nI 0) hx hb dX9_bands_35 (by decide) ?_
      have hno : bandOk b r_ = false := by simp [bandOk, c_7, c_12]
      have g33 : ws_1[33]? = some (m0, .inr (10, [.int (nI 0), .ref b1, .ref b2, .int (nI len), .int (nI ps), .ref b5, .ref b6, .ref b7, .int (nI nm), .int (nI bt_), .int (nI so), .int (nI wi), .ref b12, .int (nI fm), .ref b14, .ref b15, .ref b16, .int (nI dn), .int (nI ca), .int (nI sta), .ref b20, .ref b21, .ref b22, .ref b23, .ref b24, .int (nI xn), .ref b26, .int (nI (bandN b r_ bb)), .int (nI (bandN2 b r_ rr)), .int (nI pp), .int (nI qq), .ref b31])) := by rw [bandN, bandN2, hno]; exact g33
      exact CI.ret (v := (nI 0)) C hK hP hD hS (by decide) (⟨(by rw [hno]; rfl), sm, g33⟩) hc0 hs0 dX9_bands_36
    · refine lv_iload_n hx hb dX9_bands_15 rfl (lv_at hl 1 rfl) ?_
      refine lv_bipush (v := nI 64) hx hb dX9_bands_16 (by decide) ?_
      refine lv_icmp_gt (tgt := 35) hx hb dX9_bands_18 (by decide) (fun c_18 => ?_) (fun c_18 => ?_)
      · refine lv_iconst (v := nI 0) hx hb dX9_bands_35 (by decide) ?_
        have hno : bandOk b r_ = false := by simp [bandOk, c_7, c_12, c_18]
        have g33 : ws_1[33]? = some (m0, .inr (10, [.int (nI 0), .ref b1, .ref b2, .int (nI len), .int (nI ps), .ref b5, .ref b6, .ref b7, .int (nI nm), .int (nI bt_), .int (nI so), .int (nI wi), .ref b12, .int (nI fm), .ref b14, .ref b15, .ref b16, .int (nI dn), .int (nI ca), .int (nI sta), .ref b20, .ref b21, .ref b22, .ref b23, .ref b24, .int (nI xn), .ref b26, .int (nI (bandN b r_ bb)), .int (nI (bandN2 b r_ rr)), .int (nI pp), .int (nI qq), .ref b31])) := by rw [bandN, bandN2, hno]; exact g33
        exact CI.ret (v := (nI 0)) C hK hP hD hS (by decide) (⟨(by rw [hno]; rfl), sm, g33⟩) hc0 hs0 dX9_bands_36
      · refine lv_iload_n hx hb dX9_bands_21 rfl (lv_at hl 2 rfl) ?_
        refine lv_bipush (v := nI 64) hx hb dX9_bands_22 (by decide) ?_
        refine lv_icmp_gt (tgt := 35) hx hb dX9_bands_24 (by decide) (fun c_24 => ?_) (fun c_24 => ?_)
        · refine lv_iconst (v := nI 0) hx hb dX9_bands_35 (by decide) ?_
          have hno : bandOk b r_ = false := by simp [bandOk, c_7, c_12, c_18, c_24]
          have g33 : ws_1[33]? = some (m0, .inr (10, [.int (nI 0), .ref b1, .ref b2, .int (nI len), .int (nI ps), .ref b5, .ref b6, .ref b7, .int (nI nm), .int (nI bt_), .int (nI so), .int (nI wi), .ref b12, .int (nI fm), .ref b14, .ref b15, .ref b16, .int (nI dn), .int (nI ca), .int (nI sta), .ref b20, .ref b21, .ref b22, .ref b23, .ref b24, .int (nI xn), .ref b26, .int (nI (bandN b r_ bb)), .int (nI (bandN2 b r_ rr)), .int (nI pp), .int (nI qq), .ref b31])) := by rw [bandN, bandN2, hno]; exact g33
          exact CI.ret (v := (nI 0)) C hK hP hD hS (by decide) (⟨(by rw [hno]; rfl), sm, g33⟩) hc0 hs0 dX9_bands_36
        · refine lv_iload_n hx hb dX9_bands_27 rfl (lv_at hl 1 rfl) ?_
          refine lv_iload_n hx hb dX9_bands_28 rfl (lv_at hl 2 rfl) ?_
          refine lv_imul hx hb dX9_bands_29 ?_
          refine lv_bipush (v := nI 64) hx hb dX9_bands_30 (by decide) ?_
          refine lv_icmp_le (tgt := 37) hx hb dX9_bands_32 (by decide) (fun c_32 => ?_) (fun c_32 => ?_)
          · refine lv_aload_n hx hb dX9_bands_37 rfl (lv_at hl 0 rfl) ?_
            refine lv_iload_n hx hb dX9_bands_38 rfl (lv_at hl 1 rfl) ?_
            refine nx_put (D := D) (ci := 10) (v := .int b) (ty := .int) (C := RX9) (T := TX9) (N := 32) hx hb hts hin_X9 tyX9 tyX9_ok nmX9 hown hK hP hD hS 33 g33 rfl 27 (by decide) fl_121 (fun _ h9 => h9) rfl (by decide +kernel) rfl rfl (Nat.le_of_ble_eq_true rfl) dX9_bands_39 (fun ws_3 H locs gq up_4 hP hD hS => ?_)
            have g33 : ws_3[33]? = some (m0, .inr (10, [.int (nI 0), .ref b1, .ref b2, .int (nI len), .int (nI ps), .ref b5, .ref b6, .ref b7, .int (nI nm), .int (nI bt_), .int (nI so), .int (nI wi), .ref b12, .int (nI fm), .ref b14, .ref b15, .ref b16, .int (nI dn), .int (nI ca), .int (nI sta), .ref b20, .ref b21, .ref b22, .ref b23, .ref b24, .int (nI xn), .ref b26, .int b, .int (nI rr), .int (nI pp), .int (nI qq), .ref b31])) := gq
            have sm := sm.up up_4 (by simp)
            refine lv_aload_n hx hb dX9_bands_42 rfl (lv_at hl 0 rfl) ?_
            refine lv_iload_n hx hb dX9_bands_43 rfl (lv_at hl 2 rfl) ?_
            refine nx_put (D := D) (ci := 10) (v := .int r_) (ty := .int) (C := RX9) (T := TX9) (N := 32) hx hb hts hin_X9 tyX9 tyX9_ok nmX9 hown hK hP hD hS 33 g33 rfl 28 (by decide) fl_124 (fun _ h9 => h9) rfl (by decide +kernel) rfl rfl (Nat.le_of_ble_eq_true rfl) dX9_bands_44 (fun ws_5 H locs gq up_6 hP hD hS => ?_)
            have g33 : ws_5[33]? = some (m0, .inr (10, [.int (nI 0), .ref b1, .ref b2, .int (nI len), .int (nI ps), .ref b5, .ref b6, .ref b7, .int (nI nm), .int (nI bt_), .int (nI so), .int (nI wi), .ref b12, .int (nI fm), .ref b14, .ref b15, .ref b16, .int (nI dn), .int (nI ca), .int (nI sta), .ref b20, .ref b21, .ref b22, .ref b23, .ref b24, .int (nI xn), .ref b26, .int b, .int r_, .int (nI pp), .int (nI qq), .ref b31])) := gq
            have sm := sm.up up_6 (by simp)
            refine lv_iconst (v := nI 1) hx hb dX9_bands_47 (by decide) ?_
            have hok : bandOk b r_ = true := by simp [bandOk, c_7, c_12, c_18, c_24, c_32]
            have g33 : ws_5[33]? = some (m0, .inr (10, [.int (nI 0), .ref b1, .ref b2, .int (nI len), .int (nI ps), .ref b5, .ref b6, .ref b7, .int (nI nm), .int (nI bt_), .int (nI so), .int (nI wi), .ref b12, .int (nI fm), .ref b14, .ref b15, .ref b16, .int (nI dn), .int (nI ca), .int (nI sta), .ref b20, .ref b21, .ref b22, .ref b23, .ref b24, .int (nI xn), .ref b26, .int (nI (bandN b r_ bb)), .int (nI (bandN2 b r_ rr)), .int (nI pp), .int (nI qq), .ref b31])) := by rw [bandN, bandN2, hok, if_pos rfl, if_pos rfl, nI_back1 c_7, nI_back1 c_12]; exact g33
            exact CI.ret (v := (nI 1)) C hK hP hD hS (by decide) (⟨(by rw [hok]; rfl), sm, g33⟩) hc0 hs0 dX9_bands_48
          · refine lv_iconst (v := nI 0) hx hb dX9_bands_35 (by decide) ?_
            have hno : bandOk b r_ = false := by simp [bandOk, c_7, c_12, c_18, c_24, c_32]
            have g33 : ws_1[33]? = some (m0, .inr (10, [.int (nI 0), .ref b1, .ref b2, .int (nI len), .int (nI ps), .ref b5, .ref b6, .ref b7, .int (nI nm), .int (nI bt_), .int (nI so), .int (nI wi), .ref b12, .int (nI fm), .ref b14, .ref b15, .ref b16, .int (nI dn), .int (nI ca), .int (nI sta), .ref b20, .ref b21, .ref b22, .ref b23, .ref b24, .int (nI xn), .ref b26, .int (nI (bandN b r_ bb)), .int (nI (bandN2 b r_ rr)), .int (nI pp), .int (nI qq), .ref b31])) := by rw [bandN, bandN2, hno]; exact g33
            exact CI.ret (v := (nI 0)) C hK hP hD hS (by decide) (⟨(by rw [hno]; rfl), sm, g33⟩) hc0 hs0 dX9_bands_36
set_option maxHeartbeats 4000000 in
set_option maxRecDepth 100000 in
theorem c_X9_threshold {D : va_G} {cB cI cJ cO : ClassId} {l : Launch} {m0 b1 b2 b5 b6 b7 b12 b14 b15 b16 b20 b21 b22 b23 b24 b26 b31 th len ps nm bt_ so wi fm dn ca sta xn bb rr pp qq : Nat} {p1 q1 : Int32} {ws : va_W} (g33 : ws[33]? = some (m0, .inr (10, [.int (nI th), .ref b1, .ref b2, .int (nI len), .int (nI ps), .ref b5, .ref b6, .ref b7, .int (nI nm), .int (nI bt_), .int (nI so), .int (nI wi), .ref b12, .int (nI fm), .ref b14, .ref b15, .ref b16, .int (nI dn), .int (nI ca), .int (nI sta), .ref b20, .ref b21, .ref b22, .ref b23, .ref b24, .int (nI xn), .ref b26, .int (nI bb), .int (nI rr), .int (nI pp), .int (nI qq), .ref b31])))  : CI D (TY cB cI cJ cO) l yX9_threshold wsX9_threshold ({ frames := 0, cells := 0, slots := 0, locals := 0 }) [.ref m0, .int p1, .int q1] ws (fun r ws' => r = nI ((thrOk p1 q1).toNat) ∧ Sm (fun k => k = 33) ws ws' ∧ ws'[33]? = some (m0, .inr (10, [.int (nI 0), .ref b1, .ref b2, .int (nI len), .int (nI ps), .ref b5, .ref b6, .ref b7, .int (nI nm), .int (nI bt_), .int (nI so), .int (nI wi), .ref b12, .int (nI fm), .ref b14, .ref b15, .ref b16, .int (nI dn), .int (nI ca), .int (nI sta), .ref b20, .ref b21, .ref b22, .ref b23, .ref b24, .int (nI xn), .ref b26, .int (nI bb), .int (nI rr), .int (nI (thrN p1 q1 pp)), .int (nI (thrN2 p1 q1 qq)), .ref b31]))) := by
  refine CI.of (cc := cX9_threshold) (maxL := 3) (ret := (some .boolean)) (by decide) rfl (Nat.le_of_ble_eq_true rfl) ?_
  intro p e s m below meth c A C hK hP hD hA hS ls hl
  obtain ⟨hx, hb, hr, hml, hts, hown, hlocks, hnm⟩ := id C
  have fl_1 := hts (.fieldLink RX9 1 "TwinFinderModel" "thrown" "I") (by decide +kernel)
  have fl_127 := hts (.fieldLink RX9 127 "TwinFinderModel" "p" "I") (by decide +kernel)
  have fl_130 := hts (.fieldLink RX9 130 "TwinFinderModel" "q" "I") (by decide +kernel)
  have hin_X9 : ∀ w ∈ u_ws RX9 TX9 32, w ∈ wsX9_threshold := by decide +kernel
  have hl : lv_has ls 3 [(0, .ref m0), (1, .int p1), (2, .int q1)] := hl
  have sm : Sm (fun k => k = 33) ws ws := Sm.rf
  have hc0 : (0 : Nat) ≤ 0 := by decide
  have hs0 : (0 : Nat) ≤ 0 := by decide
  refine lv_aload_n hx hb dX9_threshold_0 rfl (lv_at hl 0 rfl) ?_
  refine lv_iconst (v := nI 0) hx hb dX9_threshold_1 (by decide) ?_
  refine nx_put (D := D) (ci := 10) (v := .int (nI 0)) (ty := .int) (C := RX9) (T := TX9) (N := 32) hx hb hts hin_X9 tyX9 tyX9_ok nmX9 hown hK hP hD hS 33 g33 rfl 0 (by decide) fl_1 (fun _ h9 => h9) rfl (by decide +kernel) rfl rfl (Nat.le_of_ble_eq_true rfl) dX9_threshold_2 (fun ws_1 H locs gq up_2 hP hD hS => ?_)
  have g33 : ws_1[33]? = some (m0, .inr (10, [.int (nI 0), .ref b1, .ref b2, .int (nI len), .int (nI ps), .ref b5, .ref b6, .ref b7, .int (nI nm), .int (nI bt_), .int (nI so), .int (nI wi), .ref b12, .int (nI fm), .ref b14, .ref b15, .ref b16, .int (nI dn), .int (nI ca), .int (nI sta), .ref b20, .ref b21, .ref b22, .ref b23, .ref b24, .int (nI xn), .ref b26, .int (nI bb), .int (nI rr), .int (nI pp), .int (nI qq), .ref b31])) := gq
  have sm := sm.up up_2 (by simp)
  refine lv_iload_n hx hb dX9_threshold_5 rfl (lv_at hl 1 rfl) ?_
  refine lv_if_lt (tgt := 26) hx hb dX9_threshold_6 (by decide) (fun c_6 => ?_) (fun c_6 => ?_)
  · refine lv_iconst (v := nI 0) hx hb dX9_threshold_26 (by decide) ?_
    have hno : thrOk p1 q1 = false := by simp [thrOk, c_6]
    have g33 : ws_1[33]? = some (m0, .inr (10, [.int (nI 0), .ref b1, .ref b2, .int (nI len), .int (nI ps), .ref b5, .ref b6, .ref b7, .int (nI nm), .int (nI bt_), .int (nI so), .int (nI wi), .ref b12, .int (nI fm), .ref b14, .ref b15, .ref b16, .int (nI dn), .int (nI ca), .int (nI sta), .ref b20, .ref b21, .ref b22, .ref b23, .ref b24, .int (nI xn), .ref b26, .int (nI bb), .int (nI rr), .int (nI (thrN p1 q1 pp)), .int (nI (thrN2 p1 q1 qq)), .ref b31])) := by rw [thrN, thrN2, hno]; exact g33
    exact CI.ret (v := (nI 0)) C hK hP hD hS (by decide) (⟨(by rw [hno]; rfl), sm, g33⟩) hc0 hs0 dX9_threshold_27
  · refine lv_iload_n hx hb dX9_threshold_9 rfl (lv_at hl 1 rfl) ?_
    refine lv_iload_n hx hb dX9_threshold_10 rfl (lv_at hl 2 rfl) ?_
    refine lv_icmp_gt (tgt := 26) hx hb dX9_threshold_11 (by decide) (fun c_11 => ?_) (fun c_11 => ?_)
    · refine lv_iconst (v := nI 0) hx hb dX9_threshold_26 (by decide) ?_
      have hno : thrOk p1 q1 = false := by simp [thrOk, c_6, c_11]
      have g33 : ws_1[33]? = some (m0, .inr (10, [.int (nI 0), .ref b1, .ref b2, .int (nI len), .int (nI ps), .ref b5, .ref b6, .ref b7, .int (nI nm), .int (nI bt_), .int (nI so), .int (nI wi), .ref b12, .int (nI fm), .ref b14, .ref b15, .ref b16, .int (nI dn), .int (nI ca), .int (nI sta), .ref b20, .ref b21, .ref b22, .ref b23, .ref b24, .int (nI xn), .ref b26, .int (nI bb), .int (nI rr), .int (nI (thrN p1 q1 pp)), .int (nI (thrN2 p1 q1 qq)), .ref b31])) := by rw [thrN, thrN2, hno]; exact g33
      exact CI.ret (v := (nI 0)) C hK hP hD hS (by decide) (⟨(by rw [hno]; rfl), sm, g33⟩) hc0 hs0 dX9_threshold_27
    · refine lv_iload_n hx hb dX9_threshold_14 rfl (lv_at hl 2 rfl) ?_
      refine lv_iconst (v := nI 1) hx hb dX9_threshold_15 (by decide) ?_
      refine lv_icmp_lt (tgt := 26) hx hb dX9_threshold_16 (by decide) (fun c_16 => ?_) (fun c_16 => ?_)
      · refine lv_iconst (v := nI 0) hx hb dX9_threshold_26 (by decide) ?_
        have hno : thrOk p1 q1 = false := by simp [thrOk, c_6, c_11, c_16]
        have g33 : ws_1[33]? = some (m0, .inr (10, [.int (nI 0), .ref b1, .ref b2, .int (nI len), .int (nI ps), .ref b5, .ref b6, .ref b7, .int (nI nm), .int (nI bt_), .int (nI so), .int (nI wi), .ref b12, .int (nI fm), .ref b14, .ref b15, .ref b16, .int (nI dn), .int (nI ca), .int (nI sta), .ref b20, .ref b21, .ref b22, .ref b23, .ref b24, .int (nI xn), .ref b26, .int (nI bb), .int (nI rr), .int (nI (thrN p1 q1 pp)), .int (nI (thrN2 p1 q1 qq)), .ref b31])) := by rw [thrN, thrN2, hno]; exact g33
        exact CI.ret (v := (nI 0)) C hK hP hD hS (by decide) (⟨(by rw [hno]; rfl), sm, g33⟩) hc0 hs0 dX9_threshold_27
      · refine lv_iload_n hx hb dX9_threshold_19 rfl (lv_at hl 2 rfl) ?_
        refine lv_sipush (v := nI 10000) hx hb dX9_threshold_20 (by decide) ?_
        refine lv_icmp_le (tgt := 28) hx hb dX9_threshold_23 (by decide) (fun c_23 => ?_) (fun c_23 => ?_)
        · refine lv_aload_n hx hb dX9_threshold_28 rfl (lv_at hl 0 rfl) ?_
          refine lv_iload_n hx hb dX9_threshold_29 rfl (lv_at hl 1 rfl) ?_
          refine nx_put (D := D) (ci := 10) (v := .int p1) (ty := .int) (C := RX9) (T := TX9) (N := 32) hx hb hts hin_X9 tyX9 tyX9_ok nmX9 hown hK hP hD hS 33 g33 rfl 29 (by decide) fl_127 (fun _ h9 => h9) rfl (by decide +kernel) rfl rfl (Nat.le_of_ble_eq_true rfl) dX9_threshold_30 (fun ws_3 H locs gq up_4 hP hD hS => ?_)
          have g33 : ws_3[33]? = some (m0, .inr (10, [.int (nI 0), .ref b1, .ref b2, .int (nI len), .int (nI ps), .ref b5, .ref b6, .ref b7, .int (nI nm), .int (nI bt_), .int (nI so), .int (nI wi), .ref b12, .int (nI fm), .ref b14, .ref b15, .ref b16, .int (nI dn), .int (nI ca), .int (nI sta), .ref b20, .ref b21, .ref b22, .ref b23, .ref b24, .int (nI xn), .ref b26, .int (nI bb), .int (nI rr), .int p1, .int (nI qq), .ref b31])) := gq
          have sm := sm.up up_4 (by simp)
          refine lv_aload_n hx hb dX9_threshold_33 rfl (lv_at hl 0 rfl) ?_
          refine lv_iload_n hx hb dX9_threshold_34 rfl (lv_at hl 2 rfl) ?_
          refine nx_put (D := D) (ci := 10) (v := .int q1) (ty := .int) (C := RX9) (T := TX9) (N := 32) hx hb hts hin_X9 tyX9 tyX9_ok nmX9 hown hK hP hD hS 33 g33 rfl 30 (by decide) fl_130 (fun _ h9 => h9) rfl (by decide +kernel) rfl rfl (Nat.le_of_ble_eq_true rfl) dX9_threshold_35 (fun ws_5 H locs gq up_6 hP hD hS => ?_)
          have g33 : ws_5[33]? = some (m0, .inr (10, [.int (nI 0), .ref b1, .ref b2, .int (nI len), .int (nI ps), .ref b5, .ref b6, .ref b7, .int (nI nm), .int (nI bt_), .int (nI so), .int (nI wi), .ref b12, .int (nI fm), .ref b14, .ref b15, .ref b16, .int (nI dn), .int (nI ca), .int (nI sta), .ref b20, .ref b21, .ref b22, .ref b23, .ref b24, .int (nI xn), .ref b26, .int (nI bb), .int (nI rr), .int p1, .int q1, .ref b31])) := gq
          have sm := sm.up up_6 (by simp)
          refine lv_iconst (v := nI 1) hx hb dX9_threshold_38 (by decide) ?_
          have hok : thrOk p1 q1 = true := by simp [thrOk, c_6, c_11, c_16, c_23]
          have g33 : ws_5[33]? = some (m0, .inr (10, [.int (nI 0), .ref b1, .ref b2, .int (nI len), .int (nI ps), .ref b5, .ref b6, .ref b7, .int (nI nm), .int (nI bt_), .int (nI so), .int (nI wi), .ref b12, .int (nI fm), .ref b14, .ref b15, .ref b16, .int (nI dn), .int (nI ca), .int (nI sta), .ref b20, .ref b21, .ref b22, .ref b23, .ref b24, .int (nI xn), .ref b26, .int (nI bb), .int (nI rr), .int (nI (thrN p1 q1 pp)), .int (nI (thrN2 p1 q1 qq)), .ref b31])) := by rw [thrN, thrN2, hok, if_pos rfl, if_pos rfl, nI_back c_6, nI_back1 c_16]; exact g33
          exact CI.ret (v := (nI 1)) C hK hP hD hS (by decide) (⟨(by rw [hok]; rfl), sm, g33⟩) hc0 hs0 dX9_threshold_39
        · refine lv_iconst (v := nI 0) hx hb dX9_threshold_26 (by decide) ?_
          have hno : thrOk p1 q1 = false := by simp [thrOk, c_6, c_11, c_16, c_23]
          have g33 : ws_1[33]? = some (m0, .inr (10, [.int (nI 0), .ref b1, .ref b2, .int (nI len), .int (nI ps), .ref b5, .ref b6, .ref b7, .int (nI nm), .int (nI bt_), .int (nI so), .int (nI wi), .ref b12, .int (nI fm), .ref b14, .ref b15, .ref b16, .int (nI dn), .int (nI ca), .int (nI sta), .ref b20, .ref b21, .ref b22, .ref b23, .ref b24, .int (nI xn), .ref b26, .int (nI bb), .int (nI rr), .int (nI (thrN p1 q1 pp)), .int (nI (thrN2 p1 q1 qq)), .ref b31])) := by rw [thrN, thrN2, hno]; exact g33
          exact CI.ret (v := (nI 0)) C hK hP hD hS (by decide) (⟨(by rw [hno]; rfl), sm, g33⟩) hc0 hs0 dX9_threshold_27
set_option maxHeartbeats 4000000 in
set_option maxRecDepth 100000 in
theorem c_X9_imageOf {D : va_G} {cB cI cJ cO : ClassId} {l : Launch} {m0 b1 b2 b5 b6 b7 b12 b14 b15 b16 b20 b21 b22 b23 b24 b26 b31 th len ps nm bt_ so wi fm dn ca sta xn bb rr pp qq : Nat} {ta tb gw go gt : Nat → Nat} {E : List (Nat × Nat × Nat)} {j x : Nat} {ws : va_W} (g33 : ws[33]? = some (m0, .inr (10, [.int (nI th), .ref b1, .ref b2, .int (nI len), .int (nI ps), .ref b5, .ref b6, .ref b7, .int (nI nm), .int (nI bt_), .int (nI so), .int (nI wi), .ref b12, .int (nI fm), .ref b14, .ref b15, .ref b16, .int (nI dn), .int (nI ca), .int (nI sta), .ref b20, .ref b21, .ref b22, .ref b23, .ref b24, .int (nI xn), .ref b26, .int (nI bb), .int (nI rr), .int (nI pp), .int (nI qq), .ref b31]))) (g43 : ws[43]? = some (b20, .inl (cI, 64, .inl (fun j => nI (ta j))))) (g44 : ws[44]? = some (b21, .inl (cI, 64, .inl (fun j => nI (tb j))))) (g45 : ws[45]? = some (b22, .inl (cI, 300, .inl (fun j => nI (gw j))))) (g46 : ws[46]? = some (b23, .inl (cI, 300, .inl (fun j => nI (go j))))) (g47 : ws[47]? = some (b24, .inl (cI, 300, .inl (fun j => nI (gt j))))) (hE : HdE gw go gt E) (hx9 : E.length = xn) (h300 : xn ≤ 300) (hsm : Esm E) (hta : Tab ta tb) (hj : j < 64) (hx65 : x < 65521) : CI D (TY cB cI cJ cO) l yX9_imageOf wsX9_imageOf ({ frames := 0, cells := 0, slots := 0, locals := 0 }) [.ref m0, .int (nI j), .int (nI x)] ws (fun r ws' => r = nI (imgOf ta tb E j x) ∧ ws = ws') := by
  refine CI.of (cc := cX9_imageOf) (maxL := 5) (ret := (some .int)) (by decide) rfl (Nat.le_of_ble_eq_true rfl) ?_
  intro p e s m below meth c A C hK hP hD hA hS ls hl
  obtain ⟨hx, hb, hr, hml, hts, hown, hlocks, hnm⟩ := id C
  have fl_103 := hts (.fieldLink RX9 103 "TwinFinderModel" "times" "[I") (by decide +kernel)
  have fl_106 := hts (.fieldLink RX9 106 "TwinFinderModel" "more" "[I") (by decide +kernel)
  have fl_109 := hts (.fieldLink RX9 109 "TwinFinderModel" "whose" "[I") (by decide +kernel)
  have fl_112 := hts (.fieldLink RX9 112 "TwinFinderModel" "one" "[I") (by decide +kernel)
  have fl_115 := hts (.fieldLink RX9 115 "TwinFinderModel" "other" "[I") (by decide +kernel)
  have fl_141 := hts (.fieldLink RX9 141 "TwinFinderModel" "exchanges" "I") (by decide +kernel)
  have hin_X9 : ∀ w ∈ u_ws RX9 TX9 32, w ∈ wsX9_imageOf := by decide +kernel
  have hl : lv_has ls 5 [(0, .ref m0), (1, .int (nI j)), (2, .int (nI x))] := hl
  have sm : Sm (fun _ => False) ws ws := Sm.rf
  have hc0 : (0 : Nat) ≤ 0 := by decide
  have hs0 : (0 : Nat) ≤ 0 := by decide
  refine lv_iload_n hx hb dX9_imageOf_0 rfl (lv_at hl 2 rfl) ?_
  refine lv_istore_n (lv' := [(3, .int (nI x)), (0, .ref m0), (1, .int (nI j)), (2, .int (nI x))]) hx hb dX9_imageOf_1 rfl hl (by decide) rfl (fun ls hl => ?_)
  refine lv_aload_n hx hb dX9_imageOf_2 rfl (lv_at hl 1 rfl) ?_
  refine va_get (D := D) (ci := 10) (v := .int (nI xn)) (C := RX9) (T := TX9) (N := 32) hx hb hts hin_X9 hown hK hP 33 g33 rfl 25 (by decide) fl_141 (fun _ h9 => h9) rfl dX9_imageOf_3 ?_
  refine lv_iconst (v := nI 1) hx hb dX9_imageOf_6 (by decide) ?_
  
  refine lv_isub hx hb dX9_imageOf_7 ?_
  refine lv_istore (lv' := [(4, .int ((nI xn) - (nI 1))), (3, .int (nI x)), (0, .ref m0), (1, .int (nI j)), (2, .int (nI x))]) hx hb dX9_imageOf_8 hl (by decide) rfl (fun ls hl => ?_)
  have lp_10 : ∀ (fuel : Nat) (t z : Nat), t < fuel → (t ≤ xn) → (z = (E.drop t).foldr (xst j) x) → (z < 65521) → ∀ (H : Heap) (locs : List Loc) (ls : Array Slot),  va_P D vwCl ws H → va_D A ws → va_S A s.heap H locs → lv_has ls 5 [(0, .ref m0), (1, .int (nI j)), (2, .int (nI x)), (3, .int (nI z)), (4, .int (nI t - nI 1))] → W p l e ({ frames := 0, cells := 0, slots := 0, locals := 0 }) s m ([.ref m0, .int (nI j), .int (nI x)] : List Value).toArray below meth c H locs 0 0 (ZI D (TY cB cI cJ cO) (fun r ws' => r = nI (imgOf ta tb E j x) ∧ ws = ws') below [.ref m0, .int (nI j), .int (nI x)] s 0 0 A) (F0 m 10 ls []) := by
    intro fuel
    induction fuel with
    | zero => intro t z hfu; exact absurd hfu (Nat.not_lt_zero _)
    | succ fuel ih_10 =>
      intro t z hfu_10 ht hz hzl H locs ls hP hD hS hl
      rcases t with _ | t
      · have hl : lv_has ls 5 [(0, .ref m0), (1, .int (nI j)), (2, .int (nI x)), (3, .int (nI z)), (4, .int (-1))] := hl
        refine lv_iload hx hb dX9_imageOf_10 (lv_at hl 4 rfl) ?_
        refine lv_if_lt (tgt := 76) hx hb dX9_imageOf_12 (by decide) (fun c_12 => ?_) (fun c_12 => absurd (by decide) c_12)
        refine lv_aload_n hx hb dX9_imageOf_76 rfl (lv_at hl 0 rfl) ?_
        refine va_get (D := D) (ci := 10) (v := .ref b20) (C := RX9) (T := TX9) (N := 32) hx hb hts hin_X9 hown hK hP 33 g33 rfl 20 (by decide) fl_103 (fun _ h9 => h9) rfl dX9_imageOf_77 ?_
        refine lv_iload_n hx hb dX9_imageOf_80 rfl (lv_at hl 1 rfl) ?_
        refine nx_iald hx hb hK hP 43 1 g43 rfl (k := j) (by omega) (by decide) dX9_imageOf_81 ?_
        refine lv_i2l (v := lN (ta j)) hx hb dX9_imageOf_82 (nI_l (by have := hta j hj; omega)) ?_
        refine lv_iload_n hx hb dX9_imageOf_83 rfl (lv_at hl 3 rfl) ?_
        refine lv_i2l (v := lN (z)) hx hb dX9_imageOf_84 (nI_l (by omega)) ?_
        refine nx_lmul hx hb dX9_imageOf_85 ?_
        refine lv_aload_n hx hb dX9_imageOf_86 rfl (lv_at hl 0 rfl) ?_
        refine va_get (D := D) (ci := 10) (v := .ref b21) (C := RX9) (T := TX9) (N := 32) hx hb hts hin_X9 hown hK hP 33 g33 rfl 21 (by decide) fl_106 (fun _ h9 => h9) rfl dX9_imageOf_87 ?_
        refine lv_iload_n hx hb dX9_imageOf_90 rfl (lv_at hl 1 rfl) ?_
        refine nx_iald hx hb hK hP 44 1 g44 rfl (k := j) (by omega) (by decide) dX9_imageOf_91 ?_
        refine lv_i2l (v := lN (tb j)) hx hb dX9_imageOf_92 (nI_l (by have := hta j hj; omega)) ?_
        refine nx_ladd hx hb dX9_imageOf_93 ?_
        refine lv_ldc2 (v := lN 65521) hx hb hown (hts (.constantLong RX9 144 65521) (by decide +kernel)) dX9_imageOf_94 ?_
        refine nx_lrem hx hb (img_b (hta j hj) hzl) dX9_imageOf_97 ?_
        refine lv_l2i (v := nI ((((ta j) * z) + (tb j)) % 65521)) hx hb dX9_imageOf_98 (lN_i _) ?_
        exact CI.ret (v := (nI ((((ta j) * z) + (tb j)) % 65521))) C hK hP hD hS rfl (⟨(by rw [imgOf, hz]; rfl), rfl⟩) hc0 hs0 dX9_imageOf_99
      · have hl : lv_has ls 5 [(0, .ref m0), (1, .int (nI j)), (2, .int (nI x)), (3, .int (nI z)), (4, .int (nI t))] := by rw [nI_m] at hl; exact hl
        refine lv_iload hx hb dX9_imageOf_10 (lv_at hl 4 rfl) ?_
        refine nx_if_lt (tgt := 76) hx hb (by omega) dX9_imageOf_12 (by decide) ?_
        refine lv_aload_n hx hb dX9_imageOf_15 rfl (lv_at hl 0 rfl) ?_
        refine va_get (D := D) (ci := 10) (v := .ref b22) (C := RX9) (T := TX9) (N := 32) hx hb hts hin_X9 hown hK hP 33 g33 rfl 22 (by decide) fl_109 (fun _ h9 => h9) rfl dX9_imageOf_16 ?_
        refine lv_iload hx hb dX9_imageOf_19 (lv_at hl 4 rfl) ?_
        refine nx_iald hx hb hK hP 45 1 g45 rfl (k := t) (by omega) (by decide) dX9_imageOf_21 ?_
        refine lv_iload_n hx hb dX9_imageOf_22 rfl (lv_at hl 1 rfl) ?_
        refine nx_icmp_eq (tgt := 29) hx hb (by have := hE t (by omega); have := hsm E[t] (List.getElem_mem _); omega) (by omega) dX9_imageOf_23 (by decide) (fun c_23 => ?_) (fun c_23 => ?_)
        · refine lv_iload_n hx hb dX9_imageOf_29 rfl (lv_at hl 3 rfl) ?_
          refine lv_aload_n hx hb dX9_imageOf_30 rfl (lv_at hl 0 rfl) ?_
          refine va_get (D := D) (ci := 10) (v := .ref b23) (C := RX9) (T := TX9) (N := 32) hx hb hts hin_X9 hown hK hP 33 g33 rfl 23 (by decide) fl_112 (fun _ h9 => h9) rfl dX9_imageOf_31 ?_
          refine lv_iload hx hb dX9_imageOf_34 (lv_at hl 4 rfl) ?_
          refine nx_iald hx hb hK hP 46 1 g46 rfl (k := t) (by omega) (by decide) dX9_imageOf_36 ?_
          refine nx_icmp_ne (tgt := 51) hx hb (by omega) (by have := hE t (by omega); have := hsm E[t] (List.getElem_mem _); omega) dX9_imageOf_37 (by decide) (fun c_37 => ?_) (fun c_37 => ?_)
          · refine lv_iload_n hx hb dX9_imageOf_51 rfl (lv_at hl 3 rfl) ?_
            refine lv_aload_n hx hb dX9_imageOf_52 rfl (lv_at hl 0 rfl) ?_
            refine va_get (D := D) (ci := 10) (v := .ref b24) (C := RX9) (T := TX9) (N := 32) hx hb hts hin_X9 hown hK hP 33 g33 rfl 24 (by decide) fl_115 (fun _ h9 => h9) rfl dX9_imageOf_53 ?_
            refine lv_iload hx hb dX9_imageOf_56 (lv_at hl 4 rfl) ?_
            refine nx_iald hx hb hK hP 47 1 g47 rfl (k := t) (by omega) (by decide) dX9_imageOf_58 ?_
            refine nx_icmp_ne (tgt := 70) hx hb (by omega) (by have := hE t (by omega); have := hsm E[t] (List.getElem_mem _); omega) dX9_imageOf_59 (by decide) (fun c_59 => ?_) (fun c_59 => ?_)
            · refine lv_iinc (v := (nI t - nI 1)) (lv' := [(4, .int (nI t - nI 1)), (0, .ref m0), (1, .int (nI j)), (2, .int (nI x)), (3, .int (nI z))]) hx hb dX9_imageOf_70 hl (k := 4) rfl (nI_dm t) (by decide) rfl (fun ls hl => ?_)
              refine lv_goto (tgt := 10) hx hb dX9_imageOf_73 (by decide) ?_
              have hq := xst_drop (j := j) (x := x) (E := E) (t := t) (by omega)
              have ht3 := hE t (by omega)
              have hsm3 := hsm E[t] (List.getElem_mem _)
              rw [← hz] at hq
              have hq2 : z = xst j E[t] z := by simp [xst, swp, ← ht3.1, ← ht3.2.1, ← ht3.2.2, c_23, c_37, c_59] <;> (try (intro h; exact h.symm))
              exact ih_10 t _ (by omega) (by omega) (hq2.trans hq.symm) (by rw [hq2]; exact xst_lt hsm3.2 hzl) _ _ _  hP hD hS (lv_sub hl [1, 2, 3, 4, 0] rfl)
            · refine lv_aload_n hx hb dX9_imageOf_62 rfl (lv_at hl 0 rfl) ?_
              refine va_get (D := D) (ci := 10) (v := .ref b23) (C := RX9) (T := TX9) (N := 32) hx hb hts hin_X9 hown hK hP 33 g33 rfl 23 (by decide) fl_112 (fun _ h9 => h9) rfl dX9_imageOf_63 ?_
              refine lv_iload hx hb dX9_imageOf_66 (lv_at hl 4 rfl) ?_
              refine nx_iald hx hb hK hP 46 1 g46 rfl (k := t) (by omega) (by decide) dX9_imageOf_68 ?_
              refine lv_istore_n (lv' := [(3, .int (nI (go t))), (0, .ref m0), (1, .int (nI j)), (2, .int (nI x)), (4, .int (nI t))]) hx hb dX9_imageOf_69 rfl hl (by decide) rfl (fun ls hl => ?_)
              refine lv_iinc (v := (nI t - nI 1)) (lv' := [(4, .int (nI t - nI 1)), (3, .int (nI (go t))), (0, .ref m0), (1, .int (nI j)), (2, .int (nI x))]) hx hb dX9_imageOf_70 hl (k := 4) rfl (nI_dm t) (by decide) rfl (fun ls hl => ?_)
              refine lv_goto (tgt := 10) hx hb dX9_imageOf_73 (by decide) ?_
              have hq := xst_drop (j := j) (x := x) (E := E) (t := t) (by omega)
              have ht3 := hE t (by omega)
              have hsm3 := hsm E[t] (List.getElem_mem _)
              rw [← hz] at hq
              have hq2 : go t = xst j E[t] z := by simp [xst, swp, ← ht3.1, ← ht3.2.1, ← ht3.2.2, c_23, c_37, c_59] <;> (try (intro h; exact h.symm))
              exact ih_10 t _ (by omega) (by omega) (hq2.trans hq.symm) (by rw [hq2]; exact xst_lt hsm3.2 hzl) _ _ _  hP hD hS (lv_sub hl [2, 3, 4, 1, 0] rfl)
          · refine lv_aload_n hx hb dX9_imageOf_40 rfl (lv_at hl 0 rfl) ?_
            refine va_get (D := D) (ci := 10) (v := .ref b24) (C := RX9) (T := TX9) (N := 32) hx hb hts hin_X9 hown hK hP 33 g33 rfl 24 (by decide) fl_115 (fun _ h9 => h9) rfl dX9_imageOf_41 ?_
            refine lv_iload hx hb dX9_imageOf_44 (lv_at hl 4 rfl) ?_
            refine nx_iald hx hb hK hP 47 1 g47 rfl (k := t) (by omega) (by decide) dX9_imageOf_46 ?_
            refine lv_istore_n (lv' := [(3, .int (nI (gt t))), (0, .ref m0), (1, .int (nI j)), (2, .int (nI x)), (4, .int (nI t))]) hx hb dX9_imageOf_47 rfl hl (by decide) rfl (fun ls hl => ?_)
            refine lv_goto (tgt := 70) hx hb dX9_imageOf_48 (by decide) ?_
            refine lv_iinc (v := (nI t - nI 1)) (lv' := [(4, .int (nI t - nI 1)), (3, .int (nI (gt t))), (0, .ref m0), (1, .int (nI j)), (2, .int (nI x))]) hx hb dX9_imageOf_70 hl (k := 4) rfl (nI_dm t) (by decide) rfl (fun ls hl => ?_)
            refine lv_goto (tgt := 10) hx hb dX9_imageOf_73 (by decide) ?_
            have hq := xst_drop (j := j) (x := x) (E := E) (t := t) (by omega)
            have ht3 := hE t (by omega)
            have hsm3 := hsm E[t] (List.getElem_mem _)
            rw [← hz] at hq
            have hq2 : gt t = xst j E[t] z := by simp [xst, swp, ← ht3.1, ← ht3.2.1, ← ht3.2.2, c_23, c_37] <;> (try (intro h; exact h.symm))
            exact ih_10 t _ (by omega) (by omega) (hq2.trans hq.symm) (by rw [hq2]; exact xst_lt hsm3.2 hzl) _ _ _  hP hD hS (lv_sub hl [2, 3, 4, 1, 0] rfl)
        · refine lv_goto (tgt := 70) hx hb dX9_imageOf_26 (by decide) ?_
          refine lv_iinc (v := (nI t - nI 1)) (lv' := [(4, .int (nI t - nI 1)), (0, .ref m0), (1, .int (nI j)), (2, .int (nI x)), (3, .int (nI z))]) hx hb dX9_imageOf_70 hl (k := 4) rfl (nI_dm t) (by decide) rfl (fun ls hl => ?_)
          refine lv_goto (tgt := 10) hx hb dX9_imageOf_73 (by decide) ?_
          have hq := xst_drop (j := j) (x := x) (E := E) (t := t) (by omega)
          have ht3 := hE t (by omega)
          have hsm3 := hsm E[t] (List.getElem_mem _)
          rw [← hz] at hq
          have hq2 : z = xst j E[t] z := by simp [xst, swp, ← ht3.1, ← ht3.2.1, ← ht3.2.2, c_23] <;> (try (intro h; exact h.symm))
          exact ih_10 t _ (by omega) (by omega) (hq2.trans hq.symm) (by rw [hq2]; exact xst_lt hsm3.2 hzl) _ _ _  hP hD hS (lv_sub hl [1, 2, 3, 4, 0] rfl)
  exact lp_10 _ xn x (Nat.lt_succ_self _) (Nat.le_refl _) (by rw [← hx9, List.drop_length]; rfl) hx65 _ _ _  hP hD hS (lv_sub hl [2, 3, 4, 1, 0] rfl)
set_option maxHeartbeats 4000000 in
set_option maxRecDepth 100000 in
theorem c_X9_image {D : va_G} {cB cI cJ cO : ClassId} {l : Launch} {m0 b1 b2 b5 b6 b7 b12 b14 b15 b16 b20 b21 b22 b23 b24 b26 b31 th len ps nm bt_ so wi fm dn ca sta xn bb rr pp qq : Nat} {ta tb gw go gt : Nat → Nat} {E : List (Nat × Nat × Nat)} {j x : Int32} {ws : va_W} (g33 : ws[33]? = some (m0, .inr (10, [.int (nI th), .ref b1, .ref b2, .int (nI len), .int (nI ps), .ref b5, .ref b6, .ref b7, .int (nI nm), .int (nI bt_), .int (nI so), .int (nI wi), .ref b12, .int (nI fm), .ref b14, .ref b15, .ref b16, .int (nI dn), .int (nI ca), .int (nI sta), .ref b20, .ref b21, .ref b22, .ref b23, .ref b24, .int (nI xn), .ref b26, .int (nI bb), .int (nI rr), .int (nI pp), .int (nI qq), .ref b31]))) (g43 : ws[43]? = some (b20, .inl (cI, 64, .inl (fun j => nI (ta j))))) (g44 : ws[44]? = some (b21, .inl (cI, 64, .inl (fun j => nI (tb j))))) (g45 : ws[45]? = some (b22, .inl (cI, 300, .inl (fun j => nI (gw j))))) (g46 : ws[46]? = some (b23, .inl (cI, 300, .inl (fun j => nI (go j))))) (g47 : ws[47]? = some (b24, .inl (cI, 300, .inl (fun j => nI (gt j))))) (hE : HdE gw go gt E) (hx9 : E.length = xn) (h300 : xn ≤ 300) (hsm : Esm E) (hta : Tab ta tb) : CI D (TY cB cI cJ cO) l yX9_image wsX9_image ({ frames := 1, cells := 0, slots := 0, locals := 24 }) [.ref m0, .int j, .int x] ws (fun r ws' => r = imR ta tb E j x ∧ Sm (fun k => k = 33) ws ws' ∧ ws'[33]? = some (m0, .inr (10, [.int (nI 0), .ref b1, .ref b2, .int (nI len), .int (nI ps), .ref b5, .ref b6, .ref b7, .int (nI nm), .int (nI bt_), .int (nI so), .int (nI wi), .ref b12, .int (nI fm), .ref b14, .ref b15, .ref b16, .int (nI dn), .int (nI ca), .int (nI sta), .ref b20, .ref b21, .ref b22, .ref b23, .ref b24, .int (nI xn), .ref b26, .int (nI bb), .int (nI rr), .int (nI pp), .int (nI qq), .ref b31]))) := by
  refine CI.of (cc := cX9_image) (maxL := 3) (ret := (some .int)) (by decide) rfl (Nat.le_of_ble_eq_true rfl) ?_
  intro p e s m below meth c A C hK hP hD hA hS ls hl
  obtain ⟨hx, hb, hr, hml, hts, hown, hlocks, hnm⟩ := id C
  have fl_1 := hts (.fieldLink RX9 1 "TwinFinderModel" "thrown" "I") (by decide +kernel)
  have hin_X9 : ∀ w ∈ u_ws RX9 TX9 32, w ∈ wsX9_image := by decide +kernel
  have hl : lv_has ls 3 [(0, .ref m0), (1, .int j), (2, .int x)] := hl
  have sm : Sm (fun k => k = 33) ws ws := Sm.rf
  have hc0 : (0 : Nat) ≤ 0 := by decide
  have hs0 : (0 : Nat) ≤ 0 := by decide
  refine lv_aload_n hx hb dX9_image_0 rfl (lv_at hl 0 rfl) ?_
  refine lv_iconst (v := nI 0) hx hb dX9_image_1 (by decide) ?_
  refine nx_put (D := D) (ci := 10) (v := .int (nI 0)) (ty := .int) (C := RX9) (T := TX9) (N := 32) hx hb hts hin_X9 tyX9 tyX9_ok nmX9 hown hK hP hD hS 33 g33 rfl 0 (by decide) fl_1 (fun _ h9 => h9) rfl (by decide +kernel) rfl rfl (Nat.le_of_ble_eq_true rfl) dX9_image_2 (fun ws_1 H locs gq up_2 hP hD hS => ?_)
  have g33 : ws_1[33]? = some (m0, .inr (10, [.int (nI 0), .ref b1, .ref b2, .int (nI len), .int (nI ps), .ref b5, .ref b6, .ref b7, .int (nI nm), .int (nI bt_), .int (nI so), .int (nI wi), .ref b12, .int (nI fm), .ref b14, .ref b15, .ref b16, .int (nI dn), .int (nI ca), .int (nI sta), .ref b20, .ref b21, .ref b22, .ref b23, .ref b24, .int (nI xn), .ref b26, .int (nI bb), .int (nI rr), .int (nI pp), .int (nI qq), .ref b31])) := gq
  have g43 := up_2.get g43 (by decide)
  have g44 := up_2.get g44 (by decide)
  have g45 := up_2.get g45 (by decide)
  have g46 := up_2.get g46 (by decide)
  have g47 := up_2.get g47 (by decide)
  have sm := sm.up up_2 (by simp)
  refine lv_iload_n hx hb dX9_image_5 rfl (lv_at hl 1 rfl) ?_
  refine lv_iconst (v := nI 0) hx hb dX9_image_6 (by decide) ?_
  refine lv_bipush (v := nI 63) hx hb dX9_image_7 (by decide) ?_
  refine CI.go (va_runS (As := [.int j, .int (nI 0), .int (nI 63)]) (rest := []) ⟨hx, hb, hml, hown, hts⟩ (c_X9_isNone    _) (va_cwS 3 hts gX9_image_X9_isNone rfl rfl rfl (by decide +kernel) ⟨Nat.le_of_ble_eq_true rfl, Nat.le_of_ble_eq_true rfl⟩) ⟨pw_blind, fun U hU hW => pw_pre hK hP hD hU hW⟩ rfl rfl hl.1 rfl (lv_room (Nat.le_of_ble_eq_true rfl)) dX9_image_9 ⟨by decide, by decide⟩) hD hS hA (fun r_3 ws_4 H locs hp hP hD hS => ?_)
  obtain ⟨rfl, rfl⟩ := hp
  refine nx_if_ne (tgt := 25) hx hb (by cases isOut j (nI 0) (nI 63) <;> decide) dX9_image_12 (by decide) (fun c_12 => ?_) (fun c_12 => ?_)
  · refine lv_iconst (v := -1) hx hb dX9_image_25 (by decide) ?_
    refine lv_goto (tgt := 35) hx hb dX9_image_26 (by decide) ?_
    exact CI.ret (v := (-1)) C hK hP hD hS rfl (⟨(by rw [imR, show imOk j x = false from by first | (rw [imOk, isOut_yes c_22]; simp; done) | (rw [imOk, isOut_yes c_12]; rfl)]; rfl), sm, g33⟩) hc0 hs0 dX9_image_35
  · refine lv_iload_n hx hb dX9_image_15 rfl (lv_at hl 2 rfl) ?_
    refine lv_iconst (v := nI 0) hx hb dX9_image_16 (by decide) ?_
    refine lv_ldc (v := nI 65520) hx hb hown (hts (.constant RX9 140 65520) (by decide +kernel)) dX9_image_17 ?_
    refine CI.go (va_runS (As := [.int x, .int (nI 0), .int (nI 65520)]) (rest := []) ⟨hx, hb, hml, hown, hts⟩ (c_X9_isNone    _) (va_cwS 3 hts gX9_image_X9_isNone rfl rfl rfl (by decide +kernel) ⟨Nat.le_of_ble_eq_true rfl, Nat.le_of_ble_eq_true rfl⟩) ⟨pw_blind, fun U hU hW => pw_pre hK hP hD hU hW⟩ rfl rfl hl.1 rfl (lv_room (Nat.le_of_ble_eq_true rfl)) dX9_image_19 ⟨by decide, by decide⟩) hD hS hA (fun r_5 ws_6 H locs hp hP hD hS => ?_)
    obtain ⟨rfl, rfl⟩ := hp
    refine nx_if_eq (tgt := 29) hx hb (by cases isOut x (nI 0) (nI 65520) <;> decide) dX9_image_22 (by decide) (fun c_22 => ?_) (fun c_22 => ?_)
    · obtain ⟨j1, -, hj1, rfl⟩ := isOut_no c_12 (by decide) (by decide)
      obtain ⟨x1, -, hx1, rfl⟩ := isOut_no c_22 (by decide) (by decide)
      refine lv_aload_n hx hb dX9_image_29 rfl (lv_at hl 0 rfl) ?_
      refine lv_iload_n hx hb dX9_image_30 rfl (lv_at hl 1 rfl) ?_
      refine lv_iload_n hx hb dX9_image_31 rfl (lv_at hl 2 rfl) ?_
      refine CI.go (va_runV (As := [.int (nI j1), .int (nI x1)]) (rest := []) ⟨hx, hb, hml, hown, hts⟩ (c_X9_imageOf  g33 g43 g44 g45 g46 g47 hE hx9 h300 hsm hta (by omega) (by omega) _) (cwV 2 hts gX9_image_X9_imageOf rfl rfl rfl (by decide +kernel) ⟨Nat.le_of_ble_eq_true rfl, Nat.le_of_ble_eq_true rfl⟩) ⟨pw_blind, va_recv hK hP (ci := 10) (q0 := 33) rfl g33, fun U hU hW => pw_pre hK hP hD hU hW⟩ rfl rfl hl.1 rfl (lv_room (Nat.le_of_ble_eq_true rfl)) dX9_image_32 ⟨by decide, by decide⟩) hD hS hA (fun r_7 ws_8 H locs hp hP hD hS => ?_)
      obtain ⟨rfl, rfl⟩ := hp
      exact CI.ret (v := (nI (imgOf ta tb E j1 x1))) C hK hP hD hS rfl (⟨(by rw [imR, if_pos (show imOk (nI j1) (nI x1) = true from by rw [imOk, isOut_in (Nat.zero_le _) hj1 (by decide), isOut_in (Nat.zero_le _) hx1 (by decide)]; rfl), nI_clamp (by omega), nI_clamp (by omega)]), sm, g33⟩) hc0 hs0 dX9_image_35
    · refine lv_iconst (v := -1) hx hb dX9_image_25 (by decide) ?_
      refine lv_goto (tgt := 35) hx hb dX9_image_26 (by decide) ?_
      exact CI.ret (v := (-1)) C hK hP hD hS rfl (⟨(by rw [imR, show imOk j x = false from by first | (rw [imOk, isOut_yes c_22]; simp; done) | (rw [imOk, isOut_yes c_12]; rfl)]; rfl), sm, g33⟩) hc0 hs0 dX9_image_35
set_option maxHeartbeats 4000000 in
set_option maxRecDepth 100000 in
theorem c_X9_exchange {D : va_G} {cB cI cJ cO : ClassId} {l : Launch} {m0 b1 b2 b5 b6 b7 b12 b14 b15 b16 b20 b21 b22 b23 b24 b26 b31 th len ps nm bt_ so wi fm dn ca sta xn bb rr pp qq : Nat} {ta tb gw go gt : Nat → Nat} {E : List (Nat × Nat × Nat)} {j x y : Int32} {ws : va_W} (g33 : ws[33]? = some (m0, .inr (10, [.int (nI th), .ref b1, .ref b2, .int (nI len), .int (nI ps), .ref b5, .ref b6, .ref b7, .int (nI nm), .int (nI bt_), .int (nI so), .int (nI wi), .ref b12, .int (nI fm), .ref b14, .ref b15, .ref b16, .int (nI dn), .int (nI ca), .int (nI sta), .ref b20, .ref b21, .ref b22, .ref b23, .ref b24, .int (nI xn), .ref b26, .int (nI bb), .int (nI rr), .int (nI pp), .int (nI qq), .ref b31]))) (g45 : ws[45]? = some (b22, .inl (cI, 300, .inl (fun j => nI (gw j))))) (g46 : ws[46]? = some (b23, .inl (cI, 300, .inl (fun j => nI (go j))))) (g47 : ws[47]? = some (b24, .inl (cI, 300, .inl (fun j => nI (gt j))))) (hE : HdE gw go gt E) (hx9 : E.length = xn) (h300 : xn ≤ 300) : CI D (TY cB cI cJ cO) l yX9_exchange wsX9_exchange ({ frames := 1, cells := 0, slots := 0, locals := 24 }) [.ref m0, .int j, .int x, .int y] ws (fun r ws' => ∃ gw2 : Nat → Nat, ∃ go2 : Nat → Nat, ∃ gt2 : Nat → Nat, r = exR E j x y ∧ HdE gw2 go2 gt2 (exL E j x y) ∧ Sm (fun k => k = 33 ∨ k = 45 ∨ k = 46 ∨ k = 47) ws ws' ∧ ws'[33]? = some (m0, .inr (10, [.int (nI 0), .ref b1, .ref b2, .int (nI len), .int (nI ps), .ref b5, .ref b6, .ref b7, .int (nI nm), .int (nI bt_), .int (nI so), .int (nI wi), .ref b12, .int (nI fm), .ref b14, .ref b15, .ref b16, .int (nI dn), .int (nI ca), .int (nI (if exOk j x y E.length = true then 1 else sta)), .ref b20, .ref b21, .ref b22, .ref b23, .ref b24, .int (nI ((exL E j x y).length)), .ref b26, .int (nI bb), .int (nI rr), .int (nI pp), .int (nI qq), .ref b31])) ∧ ws'[45]? = some (b22, .inl (cI, 300, .inl (fun j => nI (gw2 j)))) ∧ ws'[46]? = some (b23, .inl (cI, 300, .inl (fun j => nI (go2 j)))) ∧ ws'[47]? = some (b24, .inl (cI, 300, .inl (fun j => nI (gt2 j))))) := by
  refine CI.of (cc := cX9_exchange) (maxL := 4) (ret := (some .int)) (by decide) rfl (Nat.le_of_ble_eq_true rfl) ?_
  intro p e s m below meth c A C hK hP hD hA hS ls hl
  obtain ⟨hx, hb, hr, hml, hts, hown, hlocks, hnm⟩ := id C
  have fl_1 := hts (.fieldLink RX9 1 "TwinFinderModel" "thrown" "I") (by decide +kernel)
  have fl_84 := hts (.fieldLink RX9 84 "TwinFinderModel" "stale" "Z") (by decide +kernel)
  have fl_109 := hts (.fieldLink RX9 109 "TwinFinderModel" "whose" "[I") (by decide +kernel)
  have fl_112 := hts (.fieldLink RX9 112 "TwinFinderModel" "one" "[I") (by decide +kernel)
  have fl_115 := hts (.fieldLink RX9 115 "TwinFinderModel" "other" "[I") (by decide +kernel)
  have fl_141 := hts (.fieldLink RX9 141 "TwinFinderModel" "exchanges" "I") (by decide +kernel)
  have hin_X9 : ∀ w ∈ u_ws RX9 TX9 32, w ∈ wsX9_exchange := by decide +kernel
  have hl : lv_has ls 4 [(0, .ref m0), (1, .int j), (2, .int x), (3, .int y)] := hl
  have sm : Sm (fun k => k = 33 ∨ k = 45 ∨ k = 46 ∨ k = 47) ws ws := Sm.rf
  have hc0 : (0 : Nat) ≤ 0 := by decide
  have hs0 : (0 : Nat) ≤ 0 := by decide
  refine lv_aload_n hx hb dX9_exchange_0 rfl (lv_at hl 0 rfl) ?_
  refine lv_iconst (v := nI 0) hx hb dX9_exchange_1 (by decide) ?_
  refine nx_put (D := D) (ci := 10) (v := .int (nI 0)) (ty := .int) (C := RX9) (T := TX9) (N := 32) hx hb hts hin_X9 tyX9 tyX9_ok nmX9 hown hK hP hD hS 33 g33 rfl 0 (by decide) fl_1 (fun _ h9 => h9) rfl (by decide +kernel) rfl rfl (Nat.le_of_ble_eq_true rfl) dX9_exchange_2 (fun ws_1 H locs gq up_2 hP hD hS => ?_)
  have g33 : ws_1[33]? = some (m0, .inr (10, [.int (nI 0), .ref b1, .ref b2, .int (nI len), .int (nI ps), .ref b5, .ref b6, .ref b7, .int (nI nm), .int (nI bt_), .int (nI so), .int (nI wi), .ref b12, .int (nI fm), .ref b14, .ref b15, .ref b16, .int (nI dn), .int (nI ca), .int (nI sta), .ref b20, .ref b21, .ref b22, .ref b23, .ref b24, .int (nI xn), .ref b26, .int (nI bb), .int (nI rr), .int (nI pp), .int (nI qq), .ref b31])) := gq
  have g45 := up_2.get g45 (by decide)
  have g46 := up_2.get g46 (by decide)
  have g47 := up_2.get g47 (by decide)
  have sm := sm.up up_2 (by simp)
  refine lv_iload_n hx hb dX9_exchange_5 rfl (lv_at hl 1 rfl) ?_
  refine lv_iconst (v := nI 0) hx hb dX9_exchange_6 (by decide) ?_
  refine lv_bipush (v := nI 63) hx hb dX9_exchange_7 (by decide) ?_
  refine CI.go (va_runS (As := [.int j, .int (nI 0), .int (nI 63)]) (rest := []) ⟨hx, hb, hml, hown, hts⟩ (c_X9_isNone    _) (va_cwS 3 hts gX9_exchange_X9_isNone rfl rfl rfl (by decide +kernel) ⟨Nat.le_of_ble_eq_true rfl, Nat.le_of_ble_eq_true rfl⟩) ⟨pw_blind, fun U hU hW => pw_pre hK hP hD hU hW⟩ rfl rfl hl.1 rfl (lv_room (Nat.le_of_ble_eq_true rfl)) dX9_exchange_9 ⟨by decide, by decide⟩) hD hS hA (fun r_3 ws_4 H locs hp hP hD hS => ?_)
  obtain ⟨rfl, rfl⟩ := hp
  refine nx_if_ne (tgt := 45) hx hb (by cases isOut j (nI 0) (nI 63) <;> decide) dX9_exchange_12 (by decide) (fun c_12 => ?_) (fun c_12 => ?_)
  · refine lv_iconst (v := -1) hx hb dX9_exchange_45 (by decide) ?_
    have hno : exOk j x y E.length = false := by first | (rw [exOk, isOut_yes c_12]; simp; done) | (rw [exOk, isOut_yes c_22]; simp; done) | (rw [exOk, isOut_yes c_32]; simp; done) | (rw [exOk, hx9, c_42]; simp; done)
    have hL : exL E j x y = E := by rw [exL, hno]; rfl
    have g33 : ws_1[33]? = some (m0, .inr (10, [.int (nI 0), .ref b1, .ref b2, .int (nI len), .int (nI ps), .ref b5, .ref b6, .ref b7, .int (nI nm), .int (nI bt_), .int (nI so), .int (nI wi), .ref b12, .int (nI fm), .ref b14, .ref b15, .ref b16, .int (nI dn), .int (nI ca), .int (nI (if exOk j x y E.length = true then 1 else sta)), .ref b20, .ref b21, .ref b22, .ref b23, .ref b24, .int (nI ((exL E j x y).length)), .ref b26, .int (nI bb), .int (nI rr), .int (nI pp), .int (nI qq), .ref b31])) := by rw [hL, hno, hx9]; exact g33
    exact CI.ret (v := (-1)) C hK hP hD hS rfl (⟨gw, go, gt, (by rw [exR, hno]; rfl), (by rw [hL]; exact hE), sm, g33, g45, g46, g47⟩) hc0 hs0 dX9_exchange_46
  · refine lv_iload_n hx hb dX9_exchange_15 rfl (lv_at hl 2 rfl) ?_
    refine lv_iconst (v := nI 0) hx hb dX9_exchange_16 (by decide) ?_
    refine lv_ldc (v := nI 65520) hx hb hown (hts (.constant RX9 140 65520) (by decide +kernel)) dX9_exchange_17 ?_
    refine CI.go (va_runS (As := [.int x, .int (nI 0), .int (nI 65520)]) (rest := []) ⟨hx, hb, hml, hown, hts⟩ (c_X9_isNone    _) (va_cwS 3 hts gX9_exchange_X9_isNone rfl rfl rfl (by decide +kernel) ⟨Nat.le_of_ble_eq_true rfl, Nat.le_of_ble_eq_true rfl⟩) ⟨pw_blind, fun U hU hW => pw_pre hK hP hD hU hW⟩ rfl rfl hl.1 rfl (lv_room (Nat.le_of_ble_eq_true rfl)) dX9_exchange_19 ⟨by decide, by decide⟩) hD hS hA (fun r_5 ws_6 H locs hp hP hD hS => ?_)
    obtain ⟨rfl, rfl⟩ := hp
    refine nx_if_ne (tgt := 45) hx hb (by cases isOut x (nI 0) (nI 65520) <;> decide) dX9_exchange_22 (by decide) (fun c_22 => ?_) (fun c_22 => ?_)
    · refine lv_iconst (v := -1) hx hb dX9_exchange_45 (by decide) ?_
      have hno : exOk j x y E.length = false := by first | (rw [exOk, isOut_yes c_12]; simp; done) | (rw [exOk, isOut_yes c_22]; simp; done) | (rw [exOk, isOut_yes c_32]; simp; done) | (rw [exOk, hx9, c_42]; simp; done)
      have hL : exL E j x y = E := by rw [exL, hno]; rfl
      have g33 : ws_1[33]? = some (m0, .inr (10, [.int (nI 0), .ref b1, .ref b2, .int (nI len), .int (nI ps), .ref b5, .ref b6, .ref b7, .int (nI nm), .int (nI bt_), .int (nI so), .int (nI wi), .ref b12, .int (nI fm), .ref b14, .ref b15, .ref b16, .int (nI dn), .int (nI ca), .int (nI (if exOk j x y E.length = true then 1 else sta)), .ref b20, .ref b21, .ref b22, .ref b23, .ref b24, .int (nI ((exL E j x y).length)), .ref b26, .int (nI bb), .int (nI rr), .int (nI pp), .int (nI qq), .ref b31])) := by rw [hL, hno, hx9]; exact g33
      exact CI.ret (v := (-1)) C hK hP hD hS rfl (⟨gw, go, gt, (by rw [exR, hno]; rfl), (by rw [hL]; exact hE), sm, g33, g45, g46, g47⟩) hc0 hs0 dX9_exchange_46
    · refine lv_iload_n hx hb dX9_exchange_25 rfl (lv_at hl 3 rfl) ?_
      refine lv_iconst (v := nI 0) hx hb dX9_exchange_26 (by decide) ?_
      refine lv_ldc (v := nI 65520) hx hb hown (hts (.constant RX9 140 65520) (by decide +kernel)) dX9_exchange_27 ?_
      refine CI.go (va_runS (As := [.int y, .int (nI 0), .int (nI 65520)]) (rest := []) ⟨hx, hb, hml, hown, hts⟩ (c_X9_isNone    _) (va_cwS 3 hts gX9_exchange_X9_isNone rfl rfl rfl (by decide +kernel) ⟨Nat.le_of_ble_eq_true rfl, Nat.le_of_ble_eq_true rfl⟩) ⟨pw_blind, fun U hU hW => pw_pre hK hP hD hU hW⟩ rfl rfl hl.1 rfl (lv_room (Nat.le_of_ble_eq_true rfl)) dX9_exchange_29 ⟨by decide, by decide⟩) hD hS hA (fun r_7 ws_8 H locs hp hP hD hS => ?_)
      obtain ⟨rfl, rfl⟩ := hp
      refine nx_if_ne (tgt := 45) hx hb (by cases isOut y (nI 0) (nI 65520) <;> decide) dX9_exchange_32 (by decide) (fun c_32 => ?_) (fun c_32 => ?_)
      · refine lv_iconst (v := -1) hx hb dX9_exchange_45 (by decide) ?_
        have hno : exOk j x y E.length = false := by first | (rw [exOk, isOut_yes c_12]; simp; done) | (rw [exOk, isOut_yes c_22]; simp; done) | (rw [exOk, isOut_yes c_32]; simp; done) | (rw [exOk, hx9, c_42]; simp; done)
        have hL : exL E j x y = E := by rw [exL, hno]; rfl
        have g33 : ws_1[33]? = some (m0, .inr (10, [.int (nI 0), .ref b1, .ref b2, .int (nI len), .int (nI ps), .ref b5, .ref b6, .ref b7, .int (nI nm), .int (nI bt_), .int (nI so), .int (nI wi), .ref b12, .int (nI fm), .ref b14, .ref b15, .ref b16, .int (nI dn), .int (nI ca), .int (nI (if exOk j x y E.length = true then 1 else sta)), .ref b20, .ref b21, .ref b22, .ref b23, .ref b24, .int (nI ((exL E j x y).length)), .ref b26, .int (nI bb), .int (nI rr), .int (nI pp), .int (nI qq), .ref b31])) := by rw [hL, hno, hx9]; exact g33
        exact CI.ret (v := (-1)) C hK hP hD hS rfl (⟨gw, go, gt, (by rw [exR, hno]; rfl), (by rw [hL]; exact hE), sm, g33, g45, g46, g47⟩) hc0 hs0 dX9_exchange_46
      · refine lv_aload_n hx hb dX9_exchange_35 rfl (lv_at hl 0 rfl) ?_
        refine va_get (D := D) (ci := 10) (v := .int (nI xn)) (C := RX9) (T := TX9) (N := 32) hx hb hts hin_X9 hown hK hP 33 g33 rfl 25 (by decide) fl_141 (fun _ h9 => h9) rfl dX9_exchange_36 ?_
        refine lv_sipush (v := nI 300) hx hb dX9_exchange_39 (by decide) ?_
        refine nx_icmp_ne (tgt := 47) hx hb (by omega) (by omega) dX9_exchange_42 (by decide) (fun c_42 => ?_) (fun c_42 => ?_)
        · obtain ⟨j1, -, hj1, rfl⟩ := isOut_no c_12 (by decide) (by decide)
          obtain ⟨x1, -, hx1, rfl⟩ := isOut_no c_22 (by decide) (by decide)
          obtain ⟨y1, -, hy1, rfl⟩ := isOut_no c_32 (by decide) (by decide)
          have hok : exOk (nI j1) (nI x1) (nI y1) E.length = true := by rw [exOk, isOut_in (Nat.zero_le _) hj1 (by decide), isOut_in (Nat.zero_le _) hx1 (by decide), isOut_in (Nat.zero_le _) hy1 (by decide)]; simp; omega
          have hL : exL E (nI j1) (nI x1) (nI y1) = E ++ [(j1, x1, y1)] := by rw [exL, if_pos hok, nI_clamp (by omega), nI_clamp (by omega), nI_clamp (by omega)]
          refine lv_aload_n hx hb dX9_exchange_47 rfl (lv_at hl 0 rfl) ?_
          refine va_get (D := D) (ci := 10) (v := .ref b22) (C := RX9) (T := TX9) (N := 32) hx hb hts hin_X9 hown hK hP 33 g33 rfl 22 (by decide) fl_109 (fun _ h9 => h9) rfl dX9_exchange_48 ?_
          refine lv_aload_n hx hb dX9_exchange_51 rfl (lv_at hl 0 rfl) ?_
          refine va_get (D := D) (ci := 10) (v := .int (nI xn)) (C := RX9) (T := TX9) (N := 32) hx hb hts hin_X9 hown hK hP 33 g33 rfl 25 (by decide) fl_141 (fun _ h9 => h9) rfl dX9_exchange_52 ?_
          refine lv_iload_n hx hb dX9_exchange_55 rfl (lv_at hl 1 rfl) ?_
          refine nx_iastN hx hb hK hP hD hS 45 1 g45 rfl (k := xn) (by omega) (by decide) dX9_exchange_56 (fun ws_9 H locs gq up_10 hP hD hS => ?_)
          have g45 : ws_9[45]? = some (b22, .inl (cI, 300, .inl (fun j => nI ((va_up gw xn j1) j)))) := gq
          have g33 := up_10.get g33 (by decide)
          have g46 := up_10.get g46 (by decide)
          have g47 := up_10.get g47 (by decide)
          have sm := sm.up up_10 (by simp)
          refine lv_aload_n hx hb dX9_exchange_57 rfl (lv_at hl 0 rfl) ?_
          refine va_get (D := D) (ci := 10) (v := .ref b23) (C := RX9) (T := TX9) (N := 32) hx hb hts hin_X9 hown hK hP 33 g33 rfl 23 (by decide) fl_112 (fun _ h9 => h9) rfl dX9_exchange_58 ?_
          refine lv_aload_n hx hb dX9_exchange_61 rfl (lv_at hl 0 rfl) ?_
          refine va_get (D := D) (ci := 10) (v := .int (nI xn)) (C := RX9) (T := TX9) (N := 32) hx hb hts hin_X9 hown hK hP 33 g33 rfl 25 (by decide) fl_141 (fun _ h9 => h9) rfl dX9_exchange_62 ?_
          refine lv_iload_n hx hb dX9_exchange_65 rfl (lv_at hl 2 rfl) ?_
          refine nx_iastN hx hb hK hP hD hS 46 1 g46 rfl (k := xn) (by omega) (by decide) dX9_exchange_66 (fun ws_11 H locs gq up_12 hP hD hS => ?_)
          have g46 : ws_11[46]? = some (b23, .inl (cI, 300, .inl (fun j => nI ((va_up go xn x1) j)))) := gq
          have g33 := up_12.get g33 (by decide)
          have g45 := up_12.get g45 (by decide)
          have g47 := up_12.get g47 (by decide)
          have sm := sm.up up_12 (by simp)
          refine lv_aload_n hx hb dX9_exchange_67 rfl (lv_at hl 0 rfl) ?_
          refine va_get (D := D) (ci := 10) (v := .ref b24) (C := RX9) (T := TX9) (N := 32) hx hb hts hin_X9 hown hK hP 33 g33 rfl 24 (by decide) fl_115 (fun _ h9 => h9) rfl dX9_exchange_68 ?_
          refine lv_aload_n hx hb dX9_exchange_71 rfl (lv_at hl 0 rfl) ?_
          refine va_get (D := D) (ci := 10) (v := .int (nI xn)) (C := RX9) (T := TX9) (N := 32) hx hb hts hin_X9 hown hK hP 33 g33 rfl 25 (by decide) fl_141 (fun _ h9 => h9) rfl dX9_exchange_72 ?_
          refine lv_iload_n hx hb dX9_exchange_75 rfl (lv_at hl 3 rfl) ?_
          refine nx_iastN hx hb hK hP hD hS 47 1 g47 rfl (k := xn) (by omega) (by decide) dX9_exchange_76 (fun ws_13 H locs gq up_14 hP hD hS => ?_)
          have g47 : ws_13[47]? = some (b24, .inl (cI, 300, .inl (fun j => nI ((va_up gt xn y1) j)))) := gq
          have g33 := up_14.get g33 (by decide)
          have g45 := up_14.get g45 (by decide)
          have g46 := up_14.get g46 (by decide)
          have sm := sm.up up_14 (by simp)
          refine lv_aload_n hx hb dX9_exchange_77 rfl (lv_at hl 0 rfl) ?_
          refine lv_dup hx hb dX9_exchange_78 rfl ?_
          refine va_get (D := D) (ci := 10) (v := .int (nI xn)) (C := RX9) (T := TX9) (N := 32) hx hb hts hin_X9 hown hK hP 33 g33 rfl 25 (by decide) fl_141 (fun _ h9 => h9) rfl dX9_exchange_79 ?_
          refine lv_iconst (v := nI 1) hx hb dX9_exchange_82 (by decide) ?_
          refine nx_iadd hx hb dX9_exchange_83 ?_
          refine nx_put (D := D) (ci := 10) (v := .int (nI (xn + 1))) (ty := .int) (C := RX9) (T := TX9) (N := 32) hx hb hts hin_X9 tyX9 tyX9_ok nmX9 hown hK hP hD hS 33 g33 rfl 25 (by decide) fl_141 (fun _ h9 => h9) rfl (by decide +kernel) rfl rfl (Nat.le_of_ble_eq_true rfl) dX9_exchange_84 (fun ws_15 H locs gq up_16 hP hD hS => ?_)
          have g33 : ws_15[33]? = some (m0, .inr (10, [.int (nI 0), .ref b1, .ref b2, .int (nI len), .int (nI ps), .ref b5, .ref b6, .ref b7, .int (nI nm), .int (nI bt_), .int (nI so), .int (nI wi), .ref b12, .int (nI fm), .ref b14, .ref b15, .ref b16, .int (nI dn), .int (nI ca), .int (nI sta), .ref b20, .ref b21, .ref b22, .ref b23, .ref b24, .int (nI (xn + 1)), .ref b26, .int (nI bb), .int (nI rr), .int (nI pp), .int (nI qq), .ref b31])) := gq
          have g45 := up_16.get g45 (by decide)
          have g46 := up_16.get g46 (by decide)
          have g47 := up_16.get g47 (by decide)
          have sm := sm.up up_16 (by simp)
          refine lv_aload_n hx hb dX9_exchange_87 rfl (lv_at hl 0 rfl) ?_
          refine lv_iconst (v := nI 1) hx hb dX9_exchange_88 (by decide) ?_
          refine nx_put (D := D) (ci := 10) (v := .int (nI 1)) (ty := .boolean) (C := RX9) (T := TX9) (N := 32) hx hb hts hin_X9 tyX9 tyX9_ok nmX9 hown hK hP hD hS 33 g33 rfl 19 (by decide) fl_84 (fun _ h9 => h9) rfl (by decide +kernel) (by decide) (by decide) (Nat.le_of_ble_eq_true rfl) dX9_exchange_89 (fun ws_17 H locs gq up_18 hP hD hS => ?_)
          have g33 : ws_17[33]? = some (m0, .inr (10, [.int (nI 0), .ref b1, .ref b2, .int (nI len), .int (nI ps), .ref b5, .ref b6, .ref b7, .int (nI nm), .int (nI bt_), .int (nI so), .int (nI wi), .ref b12, .int (nI fm), .ref b14, .ref b15, .ref b16, .int (nI dn), .int (nI ca), .int (nI 1), .ref b20, .ref b21, .ref b22, .ref b23, .ref b24, .int (nI (xn + 1)), .ref b26, .int (nI bb), .int (nI rr), .int (nI pp), .int (nI qq), .ref b31])) := gq
          have g45 := up_18.get g45 (by decide)
          have g46 := up_18.get g46 (by decide)
          have g47 := up_18.get g47 (by decide)
          have sm := sm.up up_18 (by simp)
          refine lv_aload_n hx hb dX9_exchange_92 rfl (lv_at hl 0 rfl) ?_
          refine va_get (D := D) (ci := 10) (v := .int (nI (xn + 1))) (C := RX9) (T := TX9) (N := 32) hx hb hts hin_X9 hown hK hP 33 g33 rfl 25 (by decide) fl_141 (fun _ h9 => h9) rfl dX9_exchange_93 ?_
          have g33 : ws_17[33]? = some (m0, .inr (10, [.int (nI 0), .ref b1, .ref b2, .int (nI len), .int (nI ps), .ref b5, .ref b6, .ref b7, .int (nI nm), .int (nI bt_), .int (nI so), .int (nI wi), .ref b12, .int (nI fm), .ref b14, .ref b15, .ref b16, .int (nI dn), .int (nI ca), .int (nI (if exOk (nI j1) (nI x1) (nI y1) E.length = true then 1 else sta)), .ref b20, .ref b21, .ref b22, .ref b23, .ref b24, .int (nI ((exL E (nI j1) (nI x1) (nI y1)).length)), .ref b26, .int (nI bb), .int (nI rr), .int (nI pp), .int (nI qq), .ref b31])) := by rw [if_pos hok, hL, List.length_append, hx9]; exact g33
          exact CI.ret (v := (nI (xn + 1))) C hK hP hD hS rfl (⟨_, _, _, (by rw [exR, if_pos hok, hx9]), (by rw [hL, ← hx9]; exact hE.app), sm, g33, g45, g46, g47⟩) hc0 hs0 dX9_exchange_96
        · refine lv_iconst (v := -1) hx hb dX9_exchange_45 (by decide) ?_
          have hno : exOk j x y E.length = false := by first | (rw [exOk, isOut_yes c_12]; simp; done) | (rw [exOk, isOut_yes c_22]; simp; done) | (rw [exOk, isOut_yes c_32]; simp; done) | (rw [exOk, hx9, c_42]; simp; done)
          have hL : exL E j x y = E := by rw [exL, hno]; rfl
          have g33 : ws_1[33]? = some (m0, .inr (10, [.int (nI 0), .ref b1, .ref b2, .int (nI len), .int (nI ps), .ref b5, .ref b6, .ref b7, .int (nI nm), .int (nI bt_), .int (nI so), .int (nI wi), .ref b12, .int (nI fm), .ref b14, .ref b15, .ref b16, .int (nI dn), .int (nI ca), .int (nI (if exOk j x y E.length = true then 1 else sta)), .ref b20, .ref b21, .ref b22, .ref b23, .ref b24, .int (nI ((exL E j x y).length)), .ref b26, .int (nI bb), .int (nI rr), .int (nI pp), .int (nI qq), .ref b31])) := by rw [hL, hno, hx9]; exact g33
          exact CI.ret (v := (-1)) C hK hP hD hS rfl (⟨gw, go, gt, (by rw [exR, hno]; rfl), (by rw [hL]; exact hE), sm, g33, g45, g46, g47⟩) hc0 hs0 dX9_exchange_46
