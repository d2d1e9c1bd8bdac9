set_option maxHeartbeats 4000000 in
set_option maxRecDepth 100000 in
theorem c_X4_isOne {D : va_G} {cB cI cJ cO : ClassId} {l : Launch} {x : Int32} {ws : va_W}   : CI D (TY cB cI cJ cO) l yX4_isOne wsX4_isOne ({ frames := 0, cells := 0, slots := 0, locals := 0 }) [.int x] ws (fun r ws' => r = nI ((!isOut x (nI 0) (nI 63)).toNat) ∧ ws = ws') := by
  refine CI.of (cc := cX4_isOne) (maxL := 1) (ret := (some .boolean)) (by decide) rfl (Nat.le_of_ble_eq_true rfl) ?_
  intro p e s m below meth c A C hK hP hD hA hS ls hl
  obtain ⟨hx, hb, hr, hml, hts, hown, hlocks, hnm⟩ := id C
  have hl : lv_has ls 1 [(0, .int x)] := hl
  have sm : Sm (fun _ => False) ws ws := Sm.rf
  have hc0 : (0 : Nat) ≤ 0 := by decide
  have hs0 : (0 : Nat) ≤ 0 := by decide
  refine lv_iload_n hx hb dX4_isOne_0 rfl (lv_at hl 0 rfl) ?_
  refine lv_if_lt (tgt := 14) hx hb dX4_isOne_1 (by decide) (fun c_1 => ?_) (fun c_1 => ?_)
  · refine lv_iconst (v := nI 0) hx hb dX4_isOne_14 (by decide) ?_
    exact CI.ret (v := (nI 0)) C hK hP hD hS (by decide) (⟨(by rw [isOut_alt x 63 (by decide)]; simp [c_1]), rfl⟩) hc0 hs0 dX4_isOne_15
  · refine lv_iload_n hx hb dX4_isOne_4 rfl (lv_at hl 0 rfl) ?_
    refine lv_bipush (v := nI 64) hx hb dX4_isOne_5 (by decide) ?_
    refine lv_icmp_ge (tgt := 14) hx hb dX4_isOne_7 (by decide) (fun c_7 => ?_) (fun c_7 => ?_)
    · refine lv_iconst (v := nI 0) hx hb dX4_isOne_14 (by decide) ?_
      exact CI.ret (v := (nI 0)) C hK hP hD hS (by decide) (⟨(by rw [isOut_alt x 63 (by decide)]; simp [c_1, c_7]), rfl⟩) hc0 hs0 dX4_isOne_15
    · refine lv_iconst (v := nI 1) hx hb dX4_isOne_10 (by decide) ?_
      refine lv_goto (tgt := 15) hx hb dX4_isOne_11 (by decide) ?_
      exact CI.ret (v := (nI 1)) C hK hP hD hS (by decide) (⟨(by rw [isOut_alt x 63 (by decide)]; simp [c_1, c_7]), rfl⟩) hc0 hs0 dX4_isOne_15
set_option maxHeartbeats 4000000 in
set_option maxRecDepth 100000 in
theorem c_X4_isNumber {D : va_G} {cB cI cJ cO : ClassId} {l : Launch} {x : Int32} {ws : va_W}   : CI D (TY cB cI cJ cO) l yX4_isNumber wsX4_isNumber ({ frames := 0, cells := 0, slots := 0, locals := 0 }) [.int x] ws (fun r ws' => r = nI ((!isOut x (nI 0) (nI 65520)).toNat) ∧ ws = ws') := by
  refine CI.of (cc := cX4_isNumber) (maxL := 1) (ret := (some .boolean)) (by decide) rfl (Nat.le_of_ble_eq_true rfl) ?_
  intro p e s m below meth c A C hK hP hD hA hS ls hl
  obtain ⟨hx, hb, hr, hml, hts, hown, hlocks, hnm⟩ := id C
  have hl : lv_has ls 1 [(0, .int x)] := hl
  have sm : Sm (fun _ => False) ws ws := Sm.rf
  have hc0 : (0 : Nat) ≤ 0 := by decide
  have hs0 : (0 : Nat) ≤ 0 := by decide
  refine lv_iload_n hx hb dX4_isNumber_0 rfl (lv_at hl 0 rfl) ?_
  refine lv_if_lt (tgt := 14) hx hb dX4_isNumber_1 (by decide) (fun c_1 => ?_) (fun c_1 => ?_)
  · refine lv_iconst (v := nI 0) hx hb dX4_isNumber_14 (by decide) ?_
    exact CI.ret (v := (nI 0)) C hK hP hD hS (by decide) (⟨(by rw [isOut_alt x 65520 (by decide)]; simp [c_1]), rfl⟩) hc0 hs0 dX4_isNumber_15
  · refine lv_iload_n hx hb dX4_isNumber_4 rfl (lv_at hl 0 rfl) ?_
    refine lv_ldc (v := nI 65521) hx hb hown (hts (.constant RX4 27 65521) (by decide +kernel)) dX4_isNumber_5 ?_
    refine lv_icmp_ge (tgt := 14) hx hb dX4_isNumber_7 (by decide) (fun c_7 => ?_) (fun c_7 => ?_)
    · refine lv_iconst (v := nI 0) hx hb dX4_isNumber_14 (by decide) ?_
      exact CI.ret (v := (nI 0)) C hK hP hD hS (by decide) (⟨(by rw [isOut_alt x 65520 (by decide)]; simp [c_1, c_7]), rfl⟩) hc0 hs0 dX4_isNumber_15
    · refine lv_iconst (v := nI 1) hx hb dX4_isNumber_10 (by decide) ?_
      refine lv_goto (tgt := 15) hx hb dX4_isNumber_11 (by decide) ?_
      exact CI.ret (v := (nI 1)) C hK hP hD hS (by decide) (⟨(by rw [isOut_alt x 65520 (by decide)]; simp [c_1, c_7]), rfl⟩) hc0 hs0 dX4_isNumber_15
set_option maxHeartbeats 4000000 in
set_option maxRecDepth 100000 in
theorem c_X4_keyOf {D : va_G} {cB cI cJ cO : ClassId} {l : Launch} {j x : Nat} {ws : va_W}  (hj : j < 64) (hx65 : x < 65536) : CI D (TY cB cI cJ cO) l yX4_keyOf wsX4_keyOf ({ frames := 0, cells := 0, slots := 0, locals := 0 }) [.int (nI j), .int (nI x)] ws (fun r ws' => r = nI (j * 65536 + x) ∧ ws = ws') := by
  refine CI.of (cc := cX4_keyOf) (maxL := 2) (ret := (some .int)) (by decide) rfl (Nat.le_of_ble_eq_true rfl) ?_
  intro p e s m below meth c A C hK hP hD hA hS ls hl
  obtain ⟨hx, hb, hr, hml, hts, hown, hlocks, hnm⟩ := id C
  have hl : lv_has ls 2 [(0, .int (nI j)), (1, .int (nI x))] := hl
  have sm : Sm (fun _ => False) ws ws := Sm.rf
  have hc0 : (0 : Nat) ≤ 0 := by decide
  have hs0 : (0 : Nat) ≤ 0 := by decide
  refine lv_iload_n hx hb dX4_keyOf_0 rfl (lv_at hl 0 rfl) ?_
  refine lv_bipush (v := nI 16) hx hb dX4_keyOf_1 (by decide) ?_
  refine lv_ishl hx hb dX4_keyOf_3 ?_
  refine lv_iload_n hx hb dX4_keyOf_4 rfl (lv_at hl 1 rfl) ?_
  refine lv_ior hx hb dX4_keyOf_5 ?_
  exact CI.ret (v := (((nI j) <<< ((nI 16) &&& 31)) ||| (nI x))) C hK hP hD hS rfl (⟨(key_eq hj hx65), rfl⟩) hc0 hs0 dX4_keyOf_6
