set_option maxHeartbeats 4000000 in
set_option maxRecDepth 100000 in
theorem c_X4_swap {D : va_G} {cB cI cJ cO : ClassId} {l : Launch} {d0 d1 d2 d3 d4 d5 mv kp : Nat} {ta tb cn mk mi : Nat → Nat} {K : List (Nat × Nat)} {E : List (Nat × Nat × Nat)} {j x y : Int32} {ws : va_W} (g10 : ws[10]? = some (d0, .inr (5, [.ref d1, .ref d2, .ref d3, .ref d4, .ref d5, .int (nI mv), .int (nI kp)]))) (g11 : ws[11]? = some (d1, .inl (cI, 64, .inl (fun jj => nI (ta jj))))) (g12 : ws[12]? = some (d2, .inl (cI, 64, .inl (fun jj => nI (tb jj))))) (g13 : ws[13]? = some (d3, .inl (cI, 64, .inl (fun jj => nI (cn jj))))) (g14 : ws[14]? = some (d4, .inl (cI, 600, .inl (fun jj => nI (mk jj))))) (g15 : ws[15]? = some (d5, .inl (cI, 600, .inl (fun jj => nI (mi jj))))) (hHK : HdK mk mi K) (hKl : K.length = mv) (h600 : mv ≤ 600) (hPC : PermC ta tb cn K E) (hta : Tab ta tb) (hE3 : E.length ≤ 300) (hkp : E.length = kp) (hK2 : KeyIn K E) (hsm : Esm E) : CI D (TY cB cI cJ cO) l yX4_swap wsX4_swap ({ frames := 2, cells := 0, slots := 0, locals := 47 }) [.ref d0, .int j, .int x, .int y] ws (fun r ws' => ∃ cn2 : Nat → Nat, ∃ mk2 : Nat → Nat, ∃ mi2 : Nat → Nat, ∃ K2 : List (Nat × Nat), r = nI ((exOk j x y E.length).toNat) ∧ (HdK mk2 mi2 K2) ∧ (PermC ta tb cn2 K2 (exL E j x y)) ∧ (KeyIn K2 (exL E j x y)) ∧ Sm (fun k => k = 10 ∨ k = 11 ∨ k = 12 ∨ k = 13 ∨ k = 14 ∨ k = 15) ws ws' ∧ ws'[10]? = some (d0, .inr (5, [.ref d1, .ref d2, .ref d3, .ref d4, .ref d5, .int (nI (K2.length)), .int (nI ((exL E j x y).length))])) ∧ ws'[11]? = some (d1, .inl (cI, 64, .inl (fun jj => nI (ta jj)))) ∧ ws'[12]? = some (d2, .inl (cI, 64, .inl (fun jj => nI (tb jj)))) ∧ ws'[13]? = some (d3, .inl (cI, 64, .inl (fun jj => nI (cn2 jj)))) ∧ ws'[14]? = some (d4, .inl (cI, 600, .inl (fun jj => nI (mk2 jj)))) ∧ ws'[15]? = some (d5, .inl (cI, 600, .inl (fun jj => nI (mi2 jj))))) := by
  refine CI.of (cc := cX4_swap) (maxL := 6) (ret := (some .boolean)) (by decide) rfl (Nat.le_of_ble_eq_true rfl) ?_
  intro p e s m below meth c A C hK hP hD hA hS ls hl
  obtain ⟨hx, hb, hr, hml, hts, hown, hlocks, hnm⟩ := id C
  have fl_18 := hts (.fieldLink RX4 18 "TwinFinder$Permutations" "exchanges" "[I") (by decide +kernel)
  have fl_35 := hts (.fieldLink RX4 35 "TwinFinder$Permutations" "kept" "I") (by decide +kernel)
  have hin_X4 : ∀ w ∈ u_ws RX4 TX4 7, w ∈ wsX4_swap := by decide +kernel
  have hl : lv_has ls 6 [(0, .ref d0), (1, .int j), (2, .int x), (3, .int y)] := hl
  have sm : Sm (fun k => k = 10 ∨ k = 11 ∨ k = 12 ∨ k = 13 ∨ k = 14 ∨ k = 15) ws ws := Sm.rf
  have hc0 : (0 : Nat) ≤ 0 := by decide
  have hs0 : (0 : Nat) ≤ 0 := by decide
  refine lv_iload_n hx hb dX4_swap_0 rfl (lv_at hl 1 rfl) ?_
  refine CI.go (va_runS (As := [.int j]) (rest := []) ⟨hx, hb, hml, hown, hts⟩ (c_X4_isOne    _) (va_cwS 1 hts gX4_swap_X4_isOne rfl rfl rfl (by decide +kernel) ⟨Nat.le_of_ble_eq_true rfl, Nat.le_of_ble_eq_true rfl⟩) ⟨pw_blind, fun U hU hW => pw_pre hK hP hD hU hW⟩ rfl rfl hl.1 rfl (lv_room (Nat.le_of_ble_eq_true rfl)) dX4_swap_1 ⟨Nat.le_of_ble_eq_true rfl, Nat.le_of_ble_eq_true rfl⟩) hD hS hA (fun r_1 ws_2 H locs hp hP hD hS => ?_)
  obtain ⟨rfl, rfl⟩ := hp
  refine nx_if_eq (tgt := 31) hx hb (by cases isOut j (nI 0) (nI 63) <;> decide) dX4_swap_4 (by decide) (fun c_4 => ?_) (fun c_4 => ?_)
  · refine lv_iconst (v := nI 0) hx hb dX4_swap_31 (by decide) ?_
    have hno : exOk j x y E.length = false := by first | (rw [exOk, notB0 c_4]; rfl) | (rw [exOk, notB0 c_11]; simp; done) | (rw [exOk, notB0 c_18]; simp; done) | (rw [exOk, decide_eq_false (fun h => h (show E.length = 300 by omega))]; simp; done)
    have g10 : ws[10]? = some (d0, .inr (5, [.ref d1, .ref d2, .ref d3, .ref d4, .ref d5, .int (nI (K.length)), .int (nI ((exL E j x y).length))])) := by rw [exL, hno, if_neg (by decide), hKl, hkp]; exact g10
    exact CI.ret (v := (nI 0)) C hK hP hD hS (by decide) (⟨cn, mk, mi, K, (by rw [hno]; rfl), hHK, (by rw [exL, hno]; exact hPC), (by rw [exL, hno]; exact hK2), sm, g10, g11, g12, g13, g14, g15⟩) hc0 hs0 dX4_swap_32
  · refine lv_iload_n hx hb dX4_swap_7 rfl (lv_at hl 2 rfl) ?_
    refine CI.go (va_runS (As := [.int x]) (rest := []) ⟨hx, hb, hml, hown, hts⟩ (c_X4_isNumber    _) (va_cwS 1 hts gX4_swap_X4_isNumber rfl rfl rfl (by decide +kernel) ⟨Nat.le_of_ble_eq_true rfl, Nat.le_of_ble_eq_true rfl⟩) ⟨pw_blind, fun U hU hW => pw_pre hK hP hD hU hW⟩ rfl rfl hl.1 rfl (lv_room (Nat.le_of_ble_eq_true rfl)) dX4_swap_8 ⟨Nat.le_of_ble_eq_true rfl, Nat.le_of_ble_eq_true rfl⟩) hD hS hA (fun r_3 ws_4 H locs hp hP hD hS => ?_)
    obtain ⟨rfl, rfl⟩ := hp
    refine nx_if_eq (tgt := 31) hx hb (by cases isOut x (nI 0) (nI 65520) <;> decide) dX4_swap_11 (by decide) (fun c_11 => ?_) (fun c_11 => ?_)
    · refine lv_iconst (v := nI 0) hx hb dX4_swap_31 (by decide) ?_
      have hno : exOk j x y E.length = false := by first | (rw [exOk, notB0 c_4]; rfl) | (rw [exOk, notB0 c_11]; simp; done) | (rw [exOk, notB0 c_18]; simp; done) | (rw [exOk, decide_eq_false (fun h => h (show E.length = 300 by omega))]; simp; done)
      have g10 : ws[10]? = some (d0, .inr (5, [.ref d1, .ref d2, .ref d3, .ref d4, .ref d5, .int (nI (K.length)), .int (nI ((exL E j x y).length))])) := by rw [exL, hno, if_neg (by decide), hKl, hkp]; exact g10
      exact CI.ret (v := (nI 0)) C hK hP hD hS (by decide) (⟨cn, mk, mi, K, (by rw [hno]; rfl), hHK, (by rw [exL, hno]; exact hPC), (by rw [exL, hno]; exact hK2), sm, g10, g11, g12, g13, g14, g15⟩) hc0 hs0 dX4_swap_32
    · refine lv_iload_n hx hb dX4_swap_14 rfl (lv_at hl 3 rfl) ?_
      refine CI.go (va_runS (As := [.int y]) (rest := []) ⟨hx, hb, hml, hown, hts⟩ (c_X4_isNumber    _) (va_cwS 1 hts gX4_swap_X4_isNumber rfl rfl rfl (by decide +kernel) ⟨Nat.le_of_ble_eq_true rfl, Nat.le_of_ble_eq_true rfl⟩) ⟨pw_blind, fun U hU hW => pw_pre hK hP hD hU hW⟩ rfl rfl hl.1 rfl (lv_room (Nat.le_of_ble_eq_true rfl)) dX4_swap_15 ⟨Nat.le_of_ble_eq_true rfl, Nat.le_of_ble_eq_true rfl⟩) hD hS hA (fun r_5 ws_6 H locs hp hP hD hS => ?_)
      obtain ⟨rfl, rfl⟩ := hp
      refine nx_if_eq (tgt := 31) hx hb (by cases isOut y (nI 0) (nI 65520) <;> decide) dX4_swap_18 (by decide) (fun c_18 => ?_) (fun c_18 => ?_)
      · refine lv_iconst (v := nI 0) hx hb dX4_swap_31 (by decide) ?_
        have hno : exOk j x y E.length = false := by first | (rw [exOk, notB0 c_4]; rfl) | (rw [exOk, notB0 c_11]; simp; done) | (rw [exOk, notB0 c_18]; simp; done) | (rw [exOk, decide_eq_false (fun h => h (show E.length = 300 by omega))]; simp; done)
        have g10 : ws[10]? = some (d0, .inr (5, [.ref d1, .ref d2, .ref d3, .ref d4, .ref d5, .int (nI (K.length)), .int (nI ((exL E j x y).length))])) := by rw [exL, hno, if_neg (by decide), hKl, hkp]; exact g10
        exact CI.ret (v := (nI 0)) C hK hP hD hS (by decide) (⟨cn, mk, mi, K, (by rw [hno]; rfl), hHK, (by rw [exL, hno]; exact hPC), (by rw [exL, hno]; exact hK2), sm, g10, g11, g12, g13, g14, g15⟩) hc0 hs0 dX4_swap_32
      · refine lv_aload_n hx hb dX4_swap_21 rfl (lv_at hl 0 rfl) ?_
        refine va_get (D := D) (ci := 5) (v := .int (nI kp)) (C := RX4) (T := TX4) (N := 7) hx hb hts hin_X4 hown hK hP 10 g10 rfl 6 (by decide) fl_35 (fun _ h9 => h9) rfl dX4_swap_22 ?_
        refine lv_sipush (v := nI 300) hx hb dX4_swap_25 (by decide) ?_
        refine nx_icmp_lt (tgt := 33) hx hb (by omega) (by decide) dX4_swap_28 (by decide) (fun c_28 => ?_) (fun c_28 => ?_)
        · obtain ⟨j1, -, hj1, rfl⟩ := isOut_no (notB c_4) (by decide) (by decide)
          obtain ⟨x1, -, hx1, rfl⟩ := isOut_no (notB c_11) (by decide) (by decide)
          obtain ⟨y1, -, hy1, rfl⟩ := isOut_no (notB c_18) (by decide) (by decide)
          have hok : exOk (nI j1) (nI x1) (nI y1) E.length = true := by rw [exOk, isOut_in (Nat.zero_le _) hj1 (by decide), isOut_in (Nat.zero_le _) hx1 (by decide), isOut_in (Nat.zero_le _) hy1 (by decide)]; simp; omega
          have hL : exL E (nI j1) (nI x1) (nI y1) = E ++ [(j1, x1, y1)] := by rw [exL, if_pos hok, nI_clamp (by omega), nI_clamp (by omega), nI_clamp (by omega)]
          have hks : ∀ e ∈ K, e.1 < 2 ^ 31 := fun e he => by obtain ⟨a, b, h1, h2, h3, -⟩ := hPC.2.2.1 e he; omega
          have hRx : imR ta tb E (nI j1) (nI x1) = nI (imgOf ta tb E j1 x1) := imR_at hj1 hx1
          have hRy : imR ta tb E (nI j1) (nI y1) = nI (imgOf ta tb E j1 y1) := imR_at hj1 hy1
          have hKr1 : KRise (insK (j1 * 65536 + x1) (imgOf ta tb E j1 y1) K) := KRise.pw.mpr (insK_pw (KRise.pw.mp hPC.2.1))
          have hks1 : ∀ e ∈ insK (j1 * 65536 + x1) (imgOf ta tb E j1 y1) K, e.1 < 2 ^ 31 := insK_bnd hks (by omega)
          have hk2l := hK2.len hPC.2.1
          have hl1 := insK_len (j1 * 65536 + x1) (imgOf ta tb E j1 y1) K
          have hl2 := insK_len (j1 * 65536 + y1) (imgOf ta tb E j1 x1) (insK (j1 * 65536 + x1) (imgOf ta tb E j1 y1) K)
          refine lv_aload_n hx hb dX4_swap_33 rfl (lv_at hl 0 rfl) ?_
          refine lv_iload_n hx hb dX4_swap_34 rfl (lv_at hl 1 rfl) ?_
          refine lv_iload_n hx hb dX4_swap_35 rfl (lv_at hl 2 rfl) ?_
          refine CI.go (va_runV (As := [.int (nI j1), .int (nI x1)]) (rest := []) ⟨hx, hb, hml, hown, hts⟩ (c_X4_imageOf  g10 g11 g12 g13 g14 g15 hHK hKl h600 hPC hta hE3 _) (cwV 2 hts gX4_swap_X4_imageOf rfl rfl rfl (by decide +kernel) ⟨Nat.le_of_ble_eq_true rfl, Nat.le_of_ble_eq_true rfl⟩) ⟨pw_blind, va_recv hK hP (ci := 5) (q0 := 10) rfl g10, fun U hU hW => pw_pre hK hP hD hU hW⟩ rfl rfl hl.1 rfl (lv_room (Nat.le_of_ble_eq_true rfl)) dX4_swap_36 ⟨Nat.le_of_ble_eq_true rfl, Nat.le_of_ble_eq_true rfl⟩) hD hS hA (fun r_7 ws_8 H locs hp hP hD hS => ?_)
          obtain ⟨rfl, rfl⟩ := hp
          rw [hRx]
          refine lv_istore (lv' := [(4, .int (nI (imgOf ta tb E j1 x1))), (0, .ref d0), (1, .int (nI j1)), (2, .int (nI x1)), (3, .int (nI y1))]) hx hb dX4_swap_39 hl (by decide) rfl (fun ls hl => ?_)
          refine lv_aload_n hx hb dX4_swap_41 rfl (lv_at hl 1 rfl) ?_
          refine lv_iload_n hx hb dX4_swap_42 rfl (lv_at hl 2 rfl) ?_
          refine lv_iload_n hx hb dX4_swap_43 rfl (lv_at hl 4 rfl) ?_
          refine CI.go (va_runV (As := [.int (nI j1), .int (nI y1)]) (rest := []) ⟨hx, hb, hml, hown, hts⟩ (c_X4_imageOf  g10 g11 g12 g13 g14 g15 hHK hKl h600 hPC hta hE3 _) (cwV 2 hts gX4_swap_X4_imageOf rfl rfl rfl (by decide +kernel) ⟨Nat.le_of_ble_eq_true rfl, Nat.le_of_ble_eq_true rfl⟩) ⟨pw_blind, va_recv hK hP (ci := 5) (q0 := 10) rfl g10, fun U hU hW => pw_pre hK hP hD hU hW⟩ rfl rfl hl.1 rfl (lv_room (Nat.le_of_ble_eq_true rfl)) dX4_swap_44 ⟨Nat.le_of_ble_eq_true rfl, Nat.le_of_ble_eq_true rfl⟩) hD hS hA (fun r_9 ws_10 H locs hp hP hD hS => ?_)
          obtain ⟨rfl, rfl⟩ := hp
          rw [hRy]
          refine lv_istore (lv' := [(5, .int (nI (imgOf ta tb E j1 y1))), (4, .int (nI (imgOf ta tb E j1 x1))), (0, .ref d0), (1, .int (nI j1)), (2, .int (nI x1)), (3, .int (nI y1))]) hx hb dX4_swap_47 hl (by decide) rfl (fun ls hl => ?_)
          refine lv_aload_n hx hb dX4_swap_49 rfl (lv_at hl 2 rfl) ?_
          refine va_get (D := D) (ci := 5) (v := .ref d3) (C := RX4) (T := TX4) (N := 7) hx hb hts hin_X4 hown hK hP 10 g10 rfl 2 (by decide) fl_18 (fun _ h9 => h9) rfl dX4_swap_50 ?_
          refine lv_iload_n hx hb dX4_swap_53 rfl (lv_at hl 3 rfl) ?_
          refine lv_dup2_11 hx hb dX4_swap_54 rfl rfl ?_
          refine nx_iald hx hb hK hP 13 1 g13 rfl (k := j1) (by omega) (by decide) dX4_swap_55 ?_
          refine lv_iconst (v := nI 1) hx hb dX4_swap_56 (by decide) ?_
          refine nx_iadd hx hb dX4_swap_57 ?_
          refine nx_iastN hx hb hK hP hD hS 13 1 g13 rfl (k := j1) (by omega) (by decide) dX4_swap_58 (fun ws_11 H locs gq up_12 hP hD hS => ?_)
          have g13 : ws_11[13]? = some (d3, .inl (cI, 64, .inl (fun jj => nI ((va_up cn j1 ((cn j1) + 1)) jj)))) := gq
          have g10 := up_12.get g10 (by decide)
          have g11 := up_12.get g11 (by decide)
          have g12 := up_12.get g12 (by decide)
          have g14 := up_12.get g14 (by decide)
          have g15 := up_12.get g15 (by decide)
          have sm := sm.up up_12 (by simp)
          refine lv_aload_n hx hb dX4_swap_59 rfl (lv_at hl 2 rfl) ?_
          refine lv_dup hx hb dX4_swap_60 rfl ?_
          refine va_get (D := D) (ci := 5) (v := .int (nI kp)) (C := RX4) (T := TX4) (N := 7) hx hb hts hin_X4 hown hK hP 10 g10 rfl 6 (by decide) fl_35 (fun _ h9 => h9) rfl dX4_swap_61 ?_
          refine lv_iconst (v := nI 1) hx hb dX4_swap_64 (by decide) ?_
          refine nx_iadd hx hb dX4_swap_65 ?_
          refine nx_put (D := D) (ci := 5) (v := .int (nI (kp + 1))) (ty := .int) (C := RX4) (T := TX4) (N := 7) hx hb hts hin_X4 tyX4 tyX4_ok nmX4 hown hK hP hD hS 10 g10 rfl 6 (by decide) fl_35 (fun _ h9 => h9) rfl (by decide +kernel) rfl rfl (Nat.le_of_ble_eq_true rfl) dX4_swap_66 (fun ws_13 H locs gq up_14 hP hD hS => ?_)
          have g10 : ws_13[10]? = some (d0, .inr (5, [.ref d1, .ref d2, .ref d3, .ref d4, .ref d5, .int (nI mv), .int (nI (kp + 1))])) := gq
          have g11 := up_14.get g11 (by decide)
          have g12 := up_14.get g12 (by decide)
          have g13 := up_14.get g13 (by decide)
          have g14 := up_14.get g14 (by decide)
          have g15 := up_14.get g15 (by decide)
          have sm := sm.up up_14 (by simp)
          refine lv_aload_n hx hb dX4_swap_69 rfl (lv_at hl 2 rfl) ?_
          refine lv_iload_n hx hb dX4_swap_70 rfl (lv_at hl 3 rfl) ?_
          refine lv_iload_n hx hb dX4_swap_71 rfl (lv_at hl 4 rfl) ?_
          refine CI.go (va_runS (As := [.int (nI j1), .int (nI x1)]) (rest := [.ref d0]) ⟨hx, hb, hml, hown, hts⟩ (c_X4_keyOf   (by omega) (by omega) _) (va_cwS 2 hts gX4_swap_X4_keyOf rfl rfl rfl (by decide +kernel) ⟨Nat.le_of_ble_eq_true rfl, Nat.le_of_ble_eq_true rfl⟩) ⟨pw_blind, fun U hU hW => pw_pre hK hP hD hU hW⟩ rfl rfl hl.1 rfl (lv_room (Nat.le_of_ble_eq_true rfl)) dX4_swap_72 ⟨Nat.le_of_ble_eq_true rfl, Nat.le_of_ble_eq_true rfl⟩) hD hS hA (fun r_15 ws_16 H locs hp hP hD hS => ?_)
          obtain ⟨rfl, rfl⟩ := hp
          refine lv_iload hx hb dX4_swap_75 (lv_at hl 0 rfl) ?_
          refine CV.go (va_runV (As := [.int (nI (j1 * 65536 + x1)), .int (nI (imgOf ta tb E j1 y1))]) (rest := []) ⟨hx, hb, hml, hown, hts⟩ (c_X4_move  g10 g14 g15 hHK hKl hPC.2.1 hks (by omega) (by omega) _) (cwV 2 hts gX4_swap_X4_move rfl rfl rfl (by decide +kernel) ⟨Nat.le_of_ble_eq_true rfl, Nat.le_of_ble_eq_true rfl⟩) ⟨pw_blind, va_recv hK hP (ci := 5) (q0 := 10) rfl g10, fun U hU hW => pw_pre hK hP hD hU hW⟩ rfl rfl hl.1 rfl (lv_room (Nat.le_of_ble_eq_true rfl)) dX4_swap_77 ⟨Nat.le_of_ble_eq_true rfl, Nat.le_of_ble_eq_true rfl⟩) hD hS hA (fun ws_18 H locs hp hP hD hS => ?_)
          obtain ⟨mkA, miA, hHKA, sm_19, g10, g14, g15⟩ := hp
          have g11 := sm_19.get g11 (by simp)
          have g12 := sm_19.get g12 (by simp)
          have g13 := sm_19.get g13 (by simp)
          have sm := sm.call sm_19 (by intro k hk; (try simp only at hk ⊢); omega)
          have g10 : ws_18[10]? = some (d0, .inr (5, [.ref d1, .ref d2, .ref d3, .ref d4, .ref d5, .int (nI ((insK (j1 * 65536 + x1) (imgOf ta tb E j1 y1) K).length)), .int (nI ((kp + 1)))])) := g10
          have g14 : ws_18[14]? = some (d4, .inl (cI, 600, .inl (fun jj => nI (mkA jj)))) := g14
          have g15 : ws_18[15]? = some (d5, .inl (cI, 600, .inl (fun jj => nI (miA jj)))) := g15
          refine lv_aload_n hx hb dX4_swap_80 rfl (lv_at hl 2 rfl) ?_
          refine lv_iload_n hx hb dX4_swap_81 rfl (lv_at hl 3 rfl) ?_
          refine lv_iload_n hx hb dX4_swap_82 rfl (lv_at hl 5 rfl) ?_
          refine CI.go (va_runS (As := [.int (nI j1), .int (nI y1)]) (rest := [.ref d0]) ⟨hx, hb, hml, hown, hts⟩ (c_X4_keyOf   (by omega) (by omega) _) (va_cwS 2 hts gX4_swap_X4_keyOf rfl rfl rfl (by decide +kernel) ⟨Nat.le_of_ble_eq_true rfl, Nat.le_of_ble_eq_true rfl⟩) ⟨pw_blind, fun U hU hW => pw_pre hK hP hD hU hW⟩ rfl rfl hl.1 rfl (lv_room (Nat.le_of_ble_eq_true rfl)) dX4_swap_83 ⟨Nat.le_of_ble_eq_true rfl, Nat.le_of_ble_eq_true rfl⟩) hD hS hA (fun r_20 ws_21 H locs hp hP hD hS => ?_)
          obtain ⟨rfl, rfl⟩ := hp
          refine lv_iload hx hb dX4_swap_86 (lv_at hl 1 rfl) ?_
          refine CV.go (va_runV (As := [.int (nI (j1 * 65536 + y1)), .int (nI (imgOf ta tb E j1 x1))]) (rest := []) ⟨hx, hb, hml, hown, hts⟩ (c_X4_move  g10 g14 g15 hHKA rfl hKr1 hks1 (by omega) (by omega) _) (cwV 2 hts gX4_swap_X4_move rfl rfl rfl (by decide +kernel) ⟨Nat.le_of_ble_eq_true rfl, Nat.le_of_ble_eq_true rfl⟩) ⟨pw_blind, va_recv hK hP (ci := 5) (q0 := 10) rfl g10, fun U hU hW => pw_pre hK hP hD hU hW⟩ rfl rfl hl.1 rfl (lv_room (Nat.le_of_ble_eq_true rfl)) dX4_swap_88 ⟨Nat.le_of_ble_eq_true rfl, Nat.le_of_ble_eq_true rfl⟩) hD hS hA (fun ws_23 H locs hp hP hD hS => ?_)
          obtain ⟨mkB, miB, hHKB, sm_24, g10, g14, g15⟩ := hp
          have g11 := sm_24.get g11 (by simp)
          have g12 := sm_24.get g12 (by simp)
          have g13 := sm_24.get g13 (by simp)
          have sm := sm.call sm_24 (by intro k hk; (try simp only at hk ⊢); omega)
          have g10 : ws_23[10]? = some (d0, .inr (5, [.ref d1, .ref d2, .ref d3, .ref d4, .ref d5, .int (nI ((insK (j1 * 65536 + y1) (imgOf ta tb E j1 x1) (insK (j1 * 65536 + x1) (imgOf ta tb E j1 y1) K)).length)), .int (nI (((kp + 1))))])) := g10
          have g14 : ws_23[14]? = some (d4, .inl (cI, 600, .inl (fun jj => nI (mkB jj)))) := g14
          have g15 : ws_23[15]? = some (d5, .inl (cI, 600, .inl (fun jj => nI (miB jj)))) := g15
          refine lv_iconst (v := nI 1) hx hb dX4_swap_91 (by decide) ?_
          have g10 : ws_23[10]? = some (d0, .inr (5, [.ref d1, .ref d2, .ref d3, .ref d4, .ref d5, .int (nI ((insK (j1 * 65536 + y1) (imgOf ta tb E j1 x1) (insK (j1 * 65536 + x1) (imgOf ta tb E j1 y1) K)).length)), .int (nI ((exL E (nI j1) (nI x1) (nI y1)).length))])) := by rw [hL, List.length_append, hkp]; exact g10
          exact CI.ret (v := (nI 1)) C hK hP hD hS (by decide) (⟨_, _, _, _, (by rw [hok]; rfl), hHKB, (by rw [hL]; exact hPC.swap (by omega) (by omega) (by omega)), (by rw [hL]; exact hK2.swap), sm, g10, g11, g12, g13, g14, g15⟩) hc0 hs0 dX4_swap_92
        · refine lv_iconst (v := nI 0) hx hb dX4_swap_31 (by decide) ?_
          have hno : exOk j x y E.length = false := by first | (rw [exOk, notB0 c_4]; rfl) | (rw [exOk, notB0 c_11]; simp; done) | (rw [exOk, notB0 c_18]; simp; done) | (rw [exOk, decide_eq_false (fun h => h (show E.length = 300 by omega))]; simp; done)
          have g10 : ws[10]? = some (d0, .inr (5, [.ref d1, .ref d2, .ref d3, .ref d4, .ref d5, .int (nI (K.length)), .int (nI ((exL E j x y).length))])) := by rw [exL, hno, if_neg (by decide), hKl, hkp]; exact g10
          exact CI.ret (v := (nI 0)) C hK hP hD hS (by decide) (⟨cn, mk, mi, K, (by rw [hno]; rfl), hHK, (by rw [exL, hno]; exact hPC), (by rw [exL, hno]; exact hK2), sm, g10, g11, g12, g13, g14, g15⟩) hc0 hs0 dX4_swap_32
