set_option maxHeartbeats 4000000 in
set_option maxRecDepth 100000 in
theorem c_X3_put {D : va_G} {cB cI cJ cO : ClassId} {l : Launch} {pq f0 f1 f2 sz : Nat} {g1 g2 : Nat → Nat} {a b : Nat} {ws : va_W} (gpq : ws[pq]? = some (f0, .inr (4, [.ref f1, .ref f2, .int (nI sz)]))) (gpq_1 : ws[pq + 1]? = some (f1, .inl (cI, 1128, .inl (fun j => nI (g1 j))))) (gpq_2 : ws[pq + 2]? = some (f2, .inl (cI, 1128, .inl (fun j => nI (g2 j))))) (hsz : sz < 1128) : CV D (TY cB cI cJ cO) l yX3_put wsX3_put ({ frames := 0, cells := 0, slots := 0, locals := 0 }) [.ref f0, .int (nI a), .int (nI b)] ws (fun ws' => Sm (fun k => k = pq ∨ k = pq + 1 ∨ k = pq + 2) ws ws' ∧ ws'[pq]? = some (f0, .inr (4, [.ref f1, .ref f2, .int (nI (sz + 1))])) ∧ ws'[pq + 1]? = some (f1, .inl (cI, 1128, .inl (fun j => nI ((va_up g1 sz a) j)))) ∧ ws'[pq + 2]? = some (f2, .inl (cI, 1128, .inl (fun j => nI ((va_up g2 sz b) j))))) := by
  refine CV.of (cc := cX3_put) (maxL := 3) (ret := none) (by decide) rfl (Nat.le_of_ble_eq_true rfl) ?_
  intro p e s m below meth c A C hK hP hD hA hS ls hl
  obtain ⟨hx, hb, hr, hml, hts, hown, hlocks, hnm⟩ := id C
  have fl_9 := hts (.fieldLink RX3 9 "TwinFinder$PairRow" "first" "[I") (by decide +kernel)
  have fl_15 := hts (.fieldLink RX3 15 "TwinFinder$PairRow" "second" "[I") (by decide +kernel)
  have fl_18 := hts (.fieldLink RX3 18 "TwinFinder$PairRow" "size" "I") (by decide +kernel)
  have hin_X3 : ∀ w ∈ u_ws RX3 TX3 3, w ∈ wsX3_put := by decide +kernel
  have hl : lv_has ls 3 [(0, .ref f0), (1, .int (nI a)), (2, .int (nI b))] := hl
  have sm : Sm (fun k => k = pq ∨ k = pq + 1 ∨ k = pq + 2) ws ws := Sm.rf
  have hc0 : (0 : Nat) ≤ 0 := by decide
  have hs0 : (0 : Nat) ≤ 0 := by decide
  refine lv_aload_n hx hb dX3_put_0 rfl (lv_at hl 0 rfl) ?_
  refine va_get (D := D) (ci := 4) (v := .int (nI sz)) (C := RX3) (T := TX3) (N := 3) hx hb hts hin_X3 hown hK hP pq gpq rfl 2 (by decide) fl_18 (fun _ h9 => h9) rfl dX3_put_1 ?_
  refine lv_sipush (v := nI 1128) hx hb dX3_put_4 (by decide) ?_
  refine nx_icmp_ge (tgt := 40) hx hb (by omega) (by omega) dX3_put_7 (by decide) (fun c_7 => ?_) (fun c_7 => ?_)
  · omega
  · refine lv_aload_n hx hb dX3_put_10 rfl (lv_at hl 0 rfl) ?_
    refine va_get (D := D) (ci := 4) (v := .ref f1) (C := RX3) (T := TX3) (N := 3) hx hb hts hin_X3 hown hK hP pq gpq rfl 0 (by decide) fl_9 (fun _ h9 => h9) rfl dX3_put_11 ?_
    refine lv_aload_n hx hb dX3_put_14 rfl (lv_at hl 0 rfl) ?_
    refine va_get (D := D) (ci := 4) (v := .int (nI sz)) (C := RX3) (T := TX3) (N := 3) hx hb hts hin_X3 hown hK hP pq gpq rfl 2 (by decide) fl_18 (fun _ h9 => h9) rfl dX3_put_15 ?_
    refine lv_iload_n hx hb dX3_put_18 rfl (lv_at hl 1 rfl) ?_
    refine nx_iastN hx hb hK hP hD hS (pq + 1) 1 gpq_1 rfl (k := sz) (by omega) (by decide) dX3_put_19 (fun ws_1 H locs gq up_2 hP hD hS => ?_)
    have gpq_1 : ws_1[pq + 1]? = some (f1, .inl (cI, 1128, .inl (fun j => nI ((va_up g1 sz a) j)))) := gq
    have gpq := up_2.get gpq (by omega)
    have gpq_2 := up_2.get gpq_2 (by omega)
    have sm := sm.up up_2 (by simp)
    refine lv_aload_n hx hb dX3_put_20 rfl (lv_at hl 0 rfl) ?_
    refine va_get (D := D) (ci := 4) (v := .ref f2) (C := RX3) (T := TX3) (N := 3) hx hb hts hin_X3 hown hK hP pq gpq rfl 1 (by decide) fl_15 (fun _ h9 => h9) rfl dX3_put_21 ?_
    refine lv_aload_n hx hb dX3_put_24 rfl (lv_at hl 0 rfl) ?_
    refine va_get (D := D) (ci := 4) (v := .int (nI sz)) (C := RX3) (T := TX3) (N := 3) hx hb hts hin_X3 hown hK hP pq gpq rfl 2 (by decide) fl_18 (fun _ h9 => h9) rfl dX3_put_25 ?_
    refine lv_iload_n hx hb dX3_put_28 rfl (lv_at hl 2 rfl) ?_
    refine nx_iastN hx hb hK hP hD hS (pq + 2) 1 gpq_2 rfl (k := sz) (by omega) (by decide) dX3_put_29 (fun ws_3 H locs gq up_4 hP hD hS => ?_)
    have gpq_2 : ws_3[pq + 2]? = some (f2, .inl (cI, 1128, .inl (fun j => nI ((va_up g2 sz b) j)))) := gq
    have gpq := up_4.get gpq (by omega)
    have gpq_1 := up_4.get gpq_1 (by omega)
    have sm := sm.up up_4 (by simp)
    refine lv_aload_n hx hb dX3_put_30 rfl (lv_at hl 0 rfl) ?_
    refine lv_dup hx hb dX3_put_31 rfl ?_
    refine va_get (D := D) (ci := 4) (v := .int (nI sz)) (C := RX3) (T := TX3) (N := 3) hx hb hts hin_X3 hown hK hP pq gpq rfl 2 (by decide) fl_18 (fun _ h9 => h9) rfl dX3_put_32 ?_
    refine lv_iconst (v := nI 1) hx hb dX3_put_35 (by decide) ?_
    refine nx_iadd hx hb dX3_put_36 ?_
    refine nx_put (D := D) (ci := 4) (v := .int (nI (sz + 1))) (ty := .int) (C := RX3) (T := TX3) (N := 3) hx hb hts hin_X3 tyX3 tyX3_ok nmX3 hown hK hP hD hS pq gpq rfl 2 (by decide) fl_18 (fun _ h9 => h9) rfl (by decide +kernel) rfl rfl (Nat.le_of_ble_eq_true rfl) dX3_put_37 (fun ws_5 H locs gq up_6 hP hD hS => ?_)
    have gpq : ws_5[pq]? = some (f0, .inr (4, [.ref f1, .ref f2, .int (nI (sz + 1))])) := gq
    have gpq_1 := up_6.get gpq_1 (by omega)
    have gpq_2 := up_6.get gpq_2 (by omega)
    have sm := sm.up up_6 (by simp)
    exact CV.ret C hK hP hD hS (⟨sm, gpq, gpq_1, gpq_2⟩) hc0 hs0 dX3_put_40
set_option maxHeartbeats 4000000 in
set_option maxRecDepth 100000 in
theorem c_X3_side {D : va_G} {cB cI cJ cO : ClassId} {l : Launch} {pq f0 f1 f2 sz : Nat} {g1 g2 : Nat → Nat} {i x : Int32} {ws : va_W} (gpq : ws[pq]? = some (f0, .inr (4, [.ref f1, .ref f2, .int (nI sz)]))) (gpq_1 : ws[pq + 1]? = some (f1, .inl (cI, 1128, .inl (fun j => nI (g1 j))))) (gpq_2 : ws[pq + 2]? = some (f2, .inl (cI, 1128, .inl (fun j => nI (g2 j))))) (hsz : sz ≤ 1128) : CI D (TY cB cI cJ cO) l yX3_side wsX3_side ({ frames := 0, cells := 0, slots := 0, locals := 0 }) [.ref f0, .int i, .int x] ws (fun r ws' => r = sideR g1 g2 sz i x ∧ ws = ws') := by
  refine CI.of (cc := cX3_side) (maxL := 3) (ret := (some .int)) (by decide) rfl (Nat.le_of_ble_eq_true rfl) ?_
  intro p e s m below meth c A C hK hP hD hA hS ls hl
  obtain ⟨hx, hb, hr, hml, hts, hown, hlocks, hnm⟩ := id C
  have fl_9 := hts (.fieldLink RX3 9 "TwinFinder$PairRow" "first" "[I") (by decide +kernel)
  have fl_15 := hts (.fieldLink RX3 15 "TwinFinder$PairRow" "second" "[I") (by decide +kernel)
  have fl_18 := hts (.fieldLink RX3 18 "TwinFinder$PairRow" "size" "I") (by decide +kernel)
  have hin_X3 : ∀ w ∈ u_ws RX3 TX3 3, w ∈ wsX3_side := by decide +kernel
  have hl : lv_has ls 3 [(0, .ref f0), (1, .int i), (2, .int x)] := hl
  have sm : Sm (fun _ => False) ws ws := Sm.rf
  have hc0 : (0 : Nat) ≤ 0 := by decide
  have hs0 : (0 : Nat) ≤ 0 := by decide
  refine lv_iload_n hx hb dX3_side_0 rfl (lv_at hl 1 rfl) ?_
  refine lv_if_lt (tgt := 21) hx hb dX3_side_1 (by decide) (fun c_1 => ?_) (fun c_1 => ?_)
  · refine lv_iconst (v := -1) hx hb dX3_side_21 (by decide) ?_
    exact CI.ret (v := (-1)) C hK hP hD hS rfl (⟨(by rw [sideR, if_neg]; intro h; obtain ⟨h1, h2, h3, h4⟩ := h; first | exact h1 c_1 | exact absurd h2 (Int32.not_lt.mpr c_9) | exact h3 c_13 | exact c_18 h4), rfl⟩) hc0 hs0 dX3_side_22
  · refine lv_iload_n hx hb dX3_side_4 rfl (lv_at hl 1 rfl) ?_
    refine lv_aload_n hx hb dX3_side_5 rfl (lv_at hl 0 rfl) ?_
    refine va_get (D := D) (ci := 4) (v := .int (nI sz)) (C := RX3) (T := TX3) (N := 3) hx hb hts hin_X3 hown hK hP pq gpq rfl 2 (by decide) fl_18 (fun _ h9 => h9) rfl dX3_side_6 ?_
    refine lv_icmp_ge (tgt := 21) hx hb dX3_side_9 (by decide) (fun c_9 => ?_) (fun c_9 => ?_)
    · refine lv_iconst (v := -1) hx hb dX3_side_21 (by decide) ?_
      exact CI.ret (v := (-1)) C hK hP hD hS rfl (⟨(by rw [sideR, if_neg]; intro h; obtain ⟨h1, h2, h3, h4⟩ := h; first | exact h1 c_1 | exact absurd h2 (Int32.not_lt.mpr c_9) | exact h3 c_13 | exact c_18 h4), rfl⟩) hc0 hs0 dX3_side_22
    · refine lv_iload_n hx hb dX3_side_12 rfl (lv_at hl 2 rfl) ?_
      refine lv_if_lt (tgt := 21) hx hb dX3_side_13 (by decide) (fun c_13 => ?_) (fun c_13 => ?_)
      · refine lv_iconst (v := -1) hx hb dX3_side_21 (by decide) ?_
        exact CI.ret (v := (-1)) C hK hP hD hS rfl (⟨(by rw [sideR, if_neg]; intro h; obtain ⟨h1, h2, h3, h4⟩ := h; first | exact h1 c_1 | exact absurd h2 (Int32.not_lt.mpr c_9) | exact h3 c_13 | exact c_18 h4), rfl⟩) hc0 hs0 dX3_side_22
      · refine lv_iload_n hx hb dX3_side_16 rfl (lv_at hl 2 rfl) ?_
        refine lv_iconst (v := nI 1) hx hb dX3_side_17 (by decide) ?_
        refine lv_icmp_le (tgt := 23) hx hb dX3_side_18 (by decide) (fun c_18 => ?_) (fun c_18 => ?_)
        · obtain ⟨i1, hi1, rfl⟩ := nI_of c_1
          have hi1s : i1 < sz := Nat.lt_of_not_le (fun q => c_9 ((nI_leI (by omega) hi1).mpr q))
          have hc9 : nI i1 < nI sz := (nI_ltI hi1 (by omega)).mpr hi1s
          refine lv_iload_n hx hb dX3_side_23 rfl (lv_at hl 2 rfl) ?_
          refine lv_if_ne (tgt := 36) hx hb dX3_side_24 (by decide) (fun c_24 => ?_) (fun c_24 => ?_)
          · refine lv_aload_n hx hb dX3_side_36 rfl (lv_at hl 0 rfl) ?_
            refine va_get (D := D) (ci := 4) (v := .ref f2) (C := RX3) (T := TX3) (N := 3) hx hb hts hin_X3 hown hK hP pq gpq rfl 1 (by decide) fl_15 (fun _ h9 => h9) rfl dX3_side_37 ?_
            refine lv_iload_n hx hb dX3_side_40 rfl (lv_at hl 1 rfl) ?_
            refine nx_iald hx hb hK hP (pq + 2) 1 gpq_2 rfl (k := i1) (by omega) (by decide) dX3_side_41 ?_
            exact CI.ret (v := (nI (g2 i1))) C hK hP hD hS rfl (⟨(by rw [sideR, if_pos ⟨c_1, hc9, c_13, c_18⟩, nI_clamp hi1]; first | (rw [if_pos c_24]; done) | (rw [if_neg c_24]; done)), rfl⟩) hc0 hs0 dX3_side_42
          · refine lv_aload_n hx hb dX3_side_27 rfl (lv_at hl 0 rfl) ?_
            refine va_get (D := D) (ci := 4) (v := .ref f1) (C := RX3) (T := TX3) (N := 3) hx hb hts hin_X3 hown hK hP pq gpq rfl 0 (by decide) fl_9 (fun _ h9 => h9) rfl dX3_side_28 ?_
            refine lv_iload_n hx hb dX3_side_31 rfl (lv_at hl 1 rfl) ?_
            refine nx_iald hx hb hK hP (pq + 1) 1 gpq_1 rfl (k := i1) (by omega) (by decide) dX3_side_32 ?_
            refine lv_goto (tgt := 42) hx hb dX3_side_33 (by decide) ?_
            exact CI.ret (v := (nI (g1 i1))) C hK hP hD hS rfl (⟨(by rw [sideR, if_pos ⟨c_1, hc9, c_13, c_18⟩, nI_clamp hi1]; first | (rw [if_pos c_24]; done) | (rw [if_neg c_24]; done)), rfl⟩) hc0 hs0 dX3_side_42
        · refine lv_iconst (v := -1) hx hb dX3_side_21 (by decide) ?_
          exact CI.ret (v := (-1)) C hK hP hD hS rfl (⟨(by rw [sideR, if_neg]; intro h; obtain ⟨h1, h2, h3, h4⟩ := h; first | exact h1 c_1 | exact absurd h2 (Int32.not_lt.mpr c_9) | exact h3 c_13 | exact c_18 h4), rfl⟩) hc0 hs0 dX3_side_22
