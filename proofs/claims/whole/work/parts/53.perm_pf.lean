set_option maxHeartbeats 4000000 in
set_option maxRecDepth 100000 in
theorem c_X4_become {D : va_G} {cB cI cJ cO : ClassId} {l : Launch} {d0 d1 d2 d3 d4 d5 mv kp : Nat} {ta tb cn mk mi : Nat → Nat} {K : List (Nat × Nat)} {E : List (Nat × Nat × Nat)} {j a b : Int32} {ws : va_W} (g10 : ws[10]? = some (d0, .inr (5, [.ref d1, .ref d2, .ref d3, .ref d4, .ref d5, .int (nI mv), .int (nI kp)]))) (g11 : ws[11]? = some (d1, .inl (cI, 64, .inl (fun jj => nI (ta jj))))) (g12 : ws[12]? = some (d2, .inl (cI, 64, .inl (fun jj => nI (tb jj))))) (g13 : ws[13]? = some (d3, .inl (cI, 64, .inl (fun jj => nI (cn jj))))) (g14 : ws[14]? = some (d4, .inl (cI, 600, .inl (fun jj => nI (mk jj))))) (g15 : ws[15]? = some (d5, .inl (cI, 600, .inl (fun jj => nI (mi jj))))) (hHK : HdK mk mi K) (hKl : K.length = mv) (h600 : mv ≤ 600) (hPC : PermC ta tb cn K E) (hta : Tab ta tb) (hE3 : E.length ≤ 300) (hkp : E.length = kp) (hK2 : KeyIn K E) (hsm : Esm E) : CI D (TY cB cI cJ cO) l yX4_become wsX4_become ({ frames := 1, cells := 0, slots := 0, locals := 23 }) [.ref d0, .int j, .int a, .int b] ws (fun r ws' => ∃ cn2 : Nat → Nat, ∃ mk2 : Nat → Nat, ∃ mi2 : Nat → Nat, ∃ K2 : List (Nat × Nat), r = nI ((tellOk j a b).toNat) ∧ (HdK mk2 mi2 K2) ∧ (PermC (teA ta j a b) (teB tb j a b) cn2 K2 (teL E j a b)) ∧ (KeyIn K2 (teL E j a b)) ∧ Sm (fun k => k = 10 ∨ k = 11 ∨ k = 12 ∨ k = 13 ∨ k = 14 ∨ k = 15) ws ws' ∧ ws'[10]? = some (d0, .inr (5, [.ref d1, .ref d2, .ref d3, .ref d4, .ref d5, .int (nI (K2.length)), .int (nI ((teL E j a b).length))])) ∧ ws'[11]? = some (d1, .inl (cI, 64, .inl (fun jj => nI (((teA ta j a b)) jj)))) ∧ ws'[12]? = some (d2, .inl (cI, 64, .inl (fun jj => nI (((teB tb j a b)) jj)))) ∧ ws'[13]? = some (d3, .inl (cI, 64, .inl (fun jj => nI (cn2 jj)))) ∧ ws'[14]? = some (d4, .inl (cI, 600, .inl (fun jj => nI (mk2 jj)))) ∧ ws'[15]? = some (d5, .inl (cI, 600, .inl (fun jj => nI (mi2 jj))))) := by
  refine CI.of (cc := cX4_become) (maxL := 4) (ret := (some .boolean)) (by decide) rfl (Nat.le_of_ble_eq_true rfl) ?_
  intro p e s m below meth c A C hK hP hD hA hS ls hl
  obtain ⟨hx, hb, hr, hml, hts, hown, hlocks, hnm⟩ := id C
  have fl_9 := hts (.fieldLink RX4 9 "TwinFinder$Permutations" "factor" "[I") (by decide +kernel)
  have fl_15 := hts (.fieldLink RX4 15 "TwinFinder$Permutations" "summand" "[I") (by decide +kernel)
  have fl_18 := hts (.fieldLink RX4 18 "TwinFinder$Permutations" "exchanges" "[I") (by decide +kernel)
  have fl_35 := hts (.fieldLink RX4 35 "TwinFinder$Permutations" "kept" "I") (by decide +kernel)
  have hin_X4 : ∀ w ∈ u_ws RX4 TX4 7, w ∈ wsX4_become := by decide +kernel
  have hl : lv_has ls 4 [(0, .ref d0), (1, .int j), (2, .int a), (3, .int b)] := hl
  have sm : Sm (fun k => k = 10 ∨ k = 11 ∨ k = 12 ∨ k = 13 ∨ k = 14 ∨ k = 15) ws ws := Sm.rf
  have hc0 : (0 : Nat) ≤ 0 := by decide
  have hs0 : (0 : Nat) ≤ 0 := by decide
  refine lv_iload_n hx hb dX4_become_0 rfl (lv_at hl 1 rfl) ?_
  refine CI.go (va_runS (As := [.int j]) (rest := []) ⟨hx, hb, hml, hown, hts⟩ (c_X4_isOne    _) (va_cwS 1 hts gX4_become_X4_isOne rfl rfl rfl (by decide +kernel) ⟨Nat.le_of_ble_eq_true rfl, Nat.le_of_ble_eq_true rfl⟩) ⟨pw_blind, fun U hU hW => pw_pre hK hP hD hU hW⟩ rfl rfl hl.1 rfl (lv_room (Nat.le_of_ble_eq_true rfl)) dX4_become_1 ⟨Nat.le_of_ble_eq_true rfl, Nat.le_of_ble_eq_true rfl⟩) hD hS hA (fun r_1 ws_2 H locs hp hP hD hS => ?_)
  obtain ⟨rfl, rfl⟩ := hp
  refine nx_if_eq (tgt := 25) hx hb (by cases isOut j (nI 0) (nI 63) <;> decide) dX4_become_4 (by decide) (fun c_4 => ?_) (fun c_4 => ?_)
  · refine lv_iconst (v := nI 0) hx hb dX4_become_25 (by decide) ?_
    have hno : tellOk j a b = false := by first | (rw [tellOk, notB0 c_4]; rfl) | (rw [tellOk, notB0 c_22]; simp; done) | (rw [tellOk, isOut_a notB0 c_11]; simp; done) | (rw [tellOk, isOut_z c_15]; simp; done) | (rw [tellOk, isOut_big (notB0 c_11)]; simp; done)
    have g10 : ws[10]? = some (d0, .inr (5, [.ref d1, .ref d2, .ref d3, .ref d4, .ref d5, .int (nI (K.length)), .int (nI ((teL E j a b).length))])) := by rw [teL, hno, if_neg (by decide), hKl, hkp]; exact g10
    have g11 : ws[11]? = some (d1, .inl (cI, 64, .inl (fun jj => nI (((teA ta j a b)) jj)))) := by rw [teA, hno]; exact g11
    have g12 : ws[12]? = some (d2, .inl (cI, 64, .inl (fun jj => nI (((teB tb j a b)) jj)))) := by rw [teB, hno]; exact g12
    exact CI.ret (v := (nI 0)) C hK hP hD hS (by decide) (⟨cn, mk, mi, K, (by rw [hno]; rfl), hHK, (by rw [teA, teB, teL, hno]; exact hPC), (by rw [teL, hno]; exact hK2), sm, g10, g11, g12, g13, g14, g15⟩) hc0 hs0 dX4_become_26
  · refine lv_iload_n hx hb dX4_become_7 rfl (lv_at hl 2 rfl) ?_
    refine CI.go (va_runS (As := [.int a]) (rest := []) ⟨hx, hb, hml, hown, hts⟩ (c_X4_isNumber    _) (va_cwS 1 hts gX4_become_X4_isNumber rfl rfl rfl (by decide +kernel) ⟨Nat.le_of_ble_eq_true rfl, Nat.le_of_ble_eq_true rfl⟩) ⟨pw_blind, fun U hU hW => pw_pre hK hP hD hU hW⟩ rfl rfl hl.1 rfl (lv_room (Nat.le_of_ble_eq_true rfl)) dX4_become_8 ⟨Nat.le_of_ble_eq_true rfl, Nat.le_of_ble_eq_true rfl⟩) hD hS hA (fun r_3 ws_4 H locs hp hP hD hS => ?_)
    obtain ⟨rfl, rfl⟩ := hp
    refine nx_if_eq (tgt := 25) hx hb (by cases isOut a (nI 0) (nI 65520) <;> decide) dX4_become_11 (by decide) (fun c_11 => ?_) (fun c_11 => ?_)
    · refine lv_iconst (v := nI 0) hx hb dX4_become_25 (by decide) ?_
      have hno : tellOk j a b = false := by first | (rw [tellOk, notB0 c_4]; rfl) | (rw [tellOk, notB0 c_22]; simp; done) | (rw [tellOk, isOut_a notB0 c_11]; simp; done) | (rw [tellOk, isOut_z c_15]; simp; done) | (rw [tellOk, isOut_big (notB0 c_11)]; simp; done)
      have g10 : ws[10]? = some (d0, .inr (5, [.ref d1, .ref d2, .ref d3, .ref d4, .ref d5, .int (nI (K.length)), .int (nI ((teL E j a b).length))])) := by rw [teL, hno, if_neg (by decide), hKl, hkp]; exact g10
      have g11 : ws[11]? = some (d1, .inl (cI, 64, .inl (fun jj => nI (((teA ta j a b)) jj)))) := by rw [teA, hno]; exact g11
      have g12 : ws[12]? = some (d2, .inl (cI, 64, .inl (fun jj => nI (((teB tb j a b)) jj)))) := by rw [teB, hno]; exact g12
      exact CI.ret (v := (nI 0)) C hK hP hD hS (by decide) (⟨cn, mk, mi, K, (by rw [hno]; rfl), hHK, (by rw [teA, teB, teL, hno]; exact hPC), (by rw [teL, hno]; exact hK2), sm, g10, g11, g12, g13, g14, g15⟩) hc0 hs0 dX4_become_26
    · refine lv_iload_n hx hb dX4_become_14 rfl (lv_at hl 2 rfl) ?_
      refine lv_if_eq (tgt := 25) hx hb dX4_become_15 (by decide) (fun c_15 => ?_) (fun c_15 => ?_)
      · refine lv_iconst (v := nI 0) hx hb dX4_become_25 (by decide) ?_
        have hno : tellOk j a b = false := by first | (rw [tellOk, notB0 c_4]; rfl) | (rw [tellOk, notB0 c_22]; simp; done) | (rw [tellOk, isOut_a notB0 c_11]; simp; done) | (rw [tellOk, isOut_z c_15]; simp; done) | (rw [tellOk, isOut_big (notB0 c_11)]; simp; done)
        have g10 : ws[10]? = some (d0, .inr (5, [.ref d1, .ref d2, .ref d3, .ref d4, .ref d5, .int (nI (K.length)), .int (nI ((teL E j a b).length))])) := by rw [teL, hno, if_neg (by decide), hKl, hkp]; exact g10
        have g11 : ws[11]? = some (d1, .inl (cI, 64, .inl (fun jj => nI (((teA ta j a b)) jj)))) := by rw [teA, hno]; exact g11
        have g12 : ws[12]? = some (d2, .inl (cI, 64, .inl (fun jj => nI (((teB tb j a b)) jj)))) := by rw [teB, hno]; exact g12
        exact CI.ret (v := (nI 0)) C hK hP hD hS (by decide) (⟨cn, mk, mi, K, (by rw [hno]; rfl), hHK, (by rw [teA, teB, teL, hno]; exact hPC), (by rw [teL, hno]; exact hK2), sm, g10, g11, g12, g13, g14, g15⟩) hc0 hs0 dX4_become_26
      · refine lv_iload_n hx hb dX4_become_18 rfl (lv_at hl 3 rfl) ?_
        refine CI.go (va_runS (As := [.int b]) (rest := []) ⟨hx, hb, hml, hown, hts⟩ (c_X4_isNumber    _) (va_cwS 1 hts gX4_become_X4_isNumber rfl rfl rfl (by decide +kernel) ⟨Nat.le_of_ble_eq_true rfl, Nat.le_of_ble_eq_true rfl⟩) ⟨pw_blind, fun U hU hW => pw_pre hK hP hD hU hW⟩ rfl rfl hl.1 rfl (lv_room (Nat.le_of_ble_eq_true rfl)) dX4_become_19 ⟨Nat.le_of_ble_eq_true rfl, Nat.le_of_ble_eq_true rfl⟩) hD hS hA (fun r_5 ws_6 H locs hp hP hD hS => ?_)
        obtain ⟨rfl, rfl⟩ := hp
        refine nx_if_ne (tgt := 27) hx hb (by cases isOut b (nI 0) (nI 65520) <;> decide) dX4_become_22 (by decide) (fun c_22 => ?_) (fun c_22 => ?_)
        · obtain ⟨j1, -, hj1, rfl⟩ := isOut_no (notB c_4) (by decide) (by decide)
          obtain ⟨a1, -, ha1, rfl⟩ := isOut_no (notB c_11) (by decide) (by decide)
          obtain ⟨b1_, -, hb1, rfl⟩ := isOut_no (notB c_22) (by decide) (by decide)
          have ha0 : 0 < a1 := by rcases Nat.eq_zero_or_pos a1 with h9 | h9
                                  · subst h9; exact absurd rfl c_15
                                  · exact h9
          have hok : tellOk (nI j1) (nI a1) (nI b1_) = true := by rw [tellOk, isOut_in (Nat.zero_le _) hj1 (by decide), isOut_in ha0 ha1 (by decide), isOut_in (Nat.zero_le _) hb1 (by decide)]; rfl
          have hks : ∀ e ∈ K, e.1 < 2 ^ 31 := fun e he => by obtain ⟨a, b, h1, h2, h3, -⟩ := hPC.2.2.1 e he; omega
          refine lv_aload_n hx hb dX4_become_27 rfl (lv_at hl 0 rfl) ?_
          refine va_get (D := D) (ci := 5) (v := .ref d1) (C := RX4) (T := TX4) (N := 7) hx hb hts hin_X4 hown hK hP 10 g10 rfl 0 (by decide) fl_9 (fun _ h9 => h9) rfl dX4_become_28 ?_
          refine lv_iload_n hx hb dX4_become_31 rfl (lv_at hl 1 rfl) ?_
          refine lv_iload_n hx hb dX4_become_32 rfl (lv_at hl 2 rfl) ?_
          refine nx_iastN hx hb hK hP hD hS 11 1 g11 rfl (k := j1) (by omega) (by decide) dX4_become_33 (fun ws_7 H locs gq up_8 hP hD hS => ?_)
          have g11 : ws_7[11]? = some (d1, .inl (cI, 64, .inl (fun jj => nI ((va_up ta j1 a1) jj)))) := gq
          have g10 := up_8.get g10 (by decide)
          have g12 := up_8.get g12 (by decide)
          have g13 := up_8.get g13 (by decide)
          have g14 := up_8.get g14 (by decide)
          have g15 := up_8.get g15 (by decide)
          have sm := sm.up up_8 (by simp)
          refine lv_aload_n hx hb dX4_become_34 rfl (lv_at hl 0 rfl) ?_
          refine va_get (D := D) (ci := 5) (v := .ref d2) (C := RX4) (T := TX4) (N := 7) hx hb hts hin_X4 hown hK hP 10 g10 rfl 1 (by decide) fl_15 (fun _ h9 => h9) rfl dX4_become_35 ?_
          refine lv_iload_n hx hb dX4_become_38 rfl (lv_at hl 1 rfl) ?_
          refine lv_iload_n hx hb dX4_become_39 rfl (lv_at hl 3 rfl) ?_
          refine nx_iastN hx hb hK hP hD hS 12 1 g12 rfl (k := j1) (by omega) (by decide) dX4_become_40 (fun ws_9 H locs gq up_10 hP hD hS => ?_)
          have g12 : ws_9[12]? = some (d2, .inl (cI, 64, .inl (fun jj => nI ((va_up tb j1 b1_) jj)))) := gq
          have g10 := up_10.get g10 (by decide)
          have g11 := up_10.get g11 (by decide)
          have g13 := up_10.get g13 (by decide)
          have g14 := up_10.get g14 (by decide)
          have g15 := up_10.get g15 (by decide)
          have sm := sm.up up_10 (by simp)
          refine lv_aload_n hx hb dX4_become_41 rfl (lv_at hl 0 rfl) ?_
          refine lv_dup hx hb dX4_become_42 rfl ?_
          refine va_get (D := D) (ci := 5) (v := .int (nI kp)) (C := RX4) (T := TX4) (N := 7) hx hb hts hin_X4 hown hK hP 10 g10 rfl 6 (by decide) fl_35 (fun _ h9 => h9) rfl dX4_become_43 ?_
          refine lv_aload_n hx hb dX4_become_46 rfl (lv_at hl 0 rfl) ?_
          refine va_get (D := D) (ci := 5) (v := .ref d3) (C := RX4) (T := TX4) (N := 7) hx hb hts hin_X4 hown hK hP 10 g10 rfl 2 (by decide) fl_18 (fun _ h9 => h9) rfl dX4_become_47 ?_
          refine lv_iload_n hx hb dX4_become_50 rfl (lv_at hl 1 rfl) ?_
          refine nx_iald hx hb hK hP 13 1 g13 rfl (k := j1) (by omega) (by decide) dX4_become_51 ?_
          refine nx_isub hx hb (by have := hPC.1 j1 (by omega); have := List.countP_le_length (p := fun e => e.1 == j1) (l := E); omega) dX4_become_52 ?_
          refine nx_put (D := D) (ci := 5) (v := .int (nI (kp - (cn j1)))) (ty := .int) (C := RX4) (T := TX4) (N := 7) hx hb hts hin_X4 tyX4 tyX4_ok nmX4 hown hK hP hD hS 10 g10 rfl 6 (by decide) fl_35 (fun _ h9 => h9) rfl (by decide +kernel) rfl rfl (Nat.le_of_ble_eq_true rfl) dX4_become_53 (fun ws_11 H locs gq up_12 hP hD hS => ?_)
          have g10 : ws_11[10]? = some (d0, .inr (5, [.ref d1, .ref d2, .ref d3, .ref d4, .ref d5, .int (nI mv), .int (nI (kp - (cn j1)))])) := gq
          have g11 := up_12.get g11 (by decide)
          have g12 := up_12.get g12 (by decide)
          have g13 := up_12.get g13 (by decide)
          have g14 := up_12.get g14 (by decide)
          have g15 := up_12.get g15 (by decide)
          have sm := sm.up up_12 (by simp)
          refine lv_aload_n hx hb dX4_become_56 rfl (lv_at hl 0 rfl) ?_
          refine va_get (D := D) (ci := 5) (v := .ref d3) (C := RX4) (T := TX4) (N := 7) hx hb hts hin_X4 hown hK hP 10 g10 rfl 2 (by decide) fl_18 (fun _ h9 => h9) rfl dX4_become_57 ?_
          refine lv_iload_n hx hb dX4_become_60 rfl (lv_at hl 1 rfl) ?_
          refine lv_iconst (v := nI 0) hx hb dX4_become_61 (by decide) ?_
          refine nx_iastN hx hb hK hP hD hS 13 1 g13 rfl (k := j1) (by omega) (by decide) dX4_become_62 (fun ws_13 H locs gq up_14 hP hD hS => ?_)
          have g13 : ws_13[13]? = some (d3, .inl (cI, 64, .inl (fun jj => nI ((va_up cn j1 0) jj)))) := gq
          have g10 := up_14.get g10 (by decide)
          have g11 := up_14.get g11 (by decide)
          have g12 := up_14.get g12 (by decide)
          have g14 := up_14.get g14 (by decide)
          have g15 := up_14.get g15 (by decide)
          have sm := sm.up up_14 (by simp)
          refine lv_aload_n hx hb dX4_become_63 rfl (lv_at hl 0 rfl) ?_
          refine lv_iload_n hx hb dX4_become_64 rfl (lv_at hl 1 rfl) ?_
          refine CV.go (va_runV (As := [.int (nI j1)]) (rest := []) ⟨hx, hb, hml, hown, hts⟩ (c_X4_dropMoved  g10 g14 g15 hHK hKl hPC.2.1 hks (by omega) (by omega) _) (cwV 1 hts gX4_become_X4_dropMoved rfl rfl rfl (by decide +kernel) ⟨Nat.le_of_ble_eq_true rfl, Nat.le_of_ble_eq_true rfl⟩) ⟨pw_blind, va_recv hK hP (ci := 5) (q0 := 10) rfl g10, fun U hU hW => pw_pre hK hP hD hU hW⟩ rfl rfl hl.1 rfl (lv_room (Nat.le_of_ble_eq_true rfl)) dX4_become_65 ⟨Nat.le_of_ble_eq_true rfl, Nat.le_of_ble_eq_true rfl⟩) hD hS hA (fun ws_16 H locs hp hP hD hS => ?_)
          obtain ⟨mk2, mi2, hHK2, sm_17, g10, g14, g15⟩ := hp
          have g11 := sm_17.get g11 (by simp)
          have g12 := sm_17.get g12 (by simp)
          have g13 := sm_17.get g13 (by simp)
          have sm := sm.call sm_17 (by intro k hk; (try simp only at hk ⊢); omega)
          have g10 : ws_16[10]? = some (d0, .inr (5, [.ref d1, .ref d2, .ref d3, .ref d4, .ref d5, .int (nI ((K.filter (fun e => e.1 / 65536 != j1)).length)), .int (nI ((kp - (cn j1))))])) := g10
          have g14 : ws_16[14]? = some (d4, .inl (cI, 600, .inl (fun jj => nI (mk2 jj)))) := g14
          have g15 : ws_16[15]? = some (d5, .inl (cI, 600, .inl (fun jj => nI (mi2 jj)))) := g15
          refine lv_iconst (v := nI 1) hx hb dX4_become_68 (by decide) ?_
          have hL : teL E (nI j1) (nI a1) (nI b1_) = E.filter (fun e => e.1 != j1) := by rw [teL, if_pos hok, nI_clamp (by omega)]
          have hA : teA ta (nI j1) (nI a1) (nI b1_) = va_up ta j1 a1 := by rw [teA, if_pos hok, nI_clamp (by omega), nI_clamp (by omega)]
          have hB : teB tb (nI j1) (nI a1) (nI b1_) = va_up tb j1 b1_ := by rw [teB, if_pos hok, nI_clamp (by omega), nI_clamp (by omega)]
          have g10 : ws_16[10]? = some (d0, .inr (5, [.ref d1, .ref d2, .ref d3, .ref d4, .ref d5, .int (nI ((K.filter (fun e => e.1 / 65536 != j1)).length)), .int (nI ((teL E (nI j1) (nI a1) (nI b1_)).length))])) := by rw [hL, filt_len, ← hPC.1 j1 (by omega), hkp]; exact g10
          have g11 : ws_16[11]? = some (d1, .inl (cI, 64, .inl (fun jj => nI (((teA ta (nI j1) (nI a1) (nI b1_))) jj)))) := by rw [hA]; exact g11
          have g12 : ws_16[12]? = some (d2, .inl (cI, 64, .inl (fun jj => nI (((teB tb (nI j1) (nI a1) (nI b1_))) jj)))) := by rw [hB]; exact g12
          exact CI.ret (v := (nI 1)) C hK hP hD hS (by decide) (⟨_, _, _, _, (by rw [hok]; rfl), hHK2, (by rw [hA, hB, hL]; exact hPC.tell (by omega)), (by rw [hL]; exact hK2.tell hPC hsm), sm, g10, g11, g12, g13, g14, g15⟩) hc0 hs0 dX4_become_69
        · refine lv_iconst (v := nI 0) hx hb dX4_become_25 (by decide) ?_
          have hno : tellOk j a b = false := by first | (rw [tellOk, notB0 c_4]; rfl) | (rw [tellOk, notB0 c_22]; simp; done) | (rw [tellOk, isOut_a notB0 c_11]; simp; done) | (rw [tellOk, isOut_z c_15]; simp; done) | (rw [tellOk, isOut_big (notB0 c_11)]; simp; done)
          have g10 : ws[10]? = some (d0, .inr (5, [.ref d1, .ref d2, .ref d3, .ref d4, .ref d5, .int (nI (K.length)), .int (nI ((teL E j a b).length))])) := by rw [teL, hno, if_neg (by decide), hKl, hkp]; exact g10
          have g11 : ws[11]? = some (d1, .inl (cI, 64, .inl (fun jj => nI (((teA ta j a b)) jj)))) := by rw [teA, hno]; exact g11
          have g12 : ws[12]? = some (d2, .inl (cI, 64, .inl (fun jj => nI (((teB tb j a b)) jj)))) := by rw [teB, hno]; exact g12
          exact CI.ret (v := (nI 0)) C hK hP hD hS (by decide) (⟨cn, mk, mi, K, (by rw [hno]; rfl), hHK, (by rw [teA, teB, teL, hno]; exact hPC), (by rw [teL, hno]; exact hK2), sm, g10, g11, g12, g13, g14, g15⟩) hc0 hs0 dX4_become_26
