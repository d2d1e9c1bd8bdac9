theorem notB {b : Bool} (h : 0 < (!b).toNat) : b.toNat = 0 := by cases b with
  | false => rfl
  | true => cases h
theorem notB0 {b : Bool} (h : (!b).toNat = 0) : b = true := by cases b with
  | true => rfl
  | false => cases h
theorem pc_hit {ta tb cn : Nat → Nat} {K : List (Nat × Nat)} {E : List (Nat × Nat × Nat)} (h : PermC ta tb cn K E) {c j x : Nat} (hc : c < K.length) (hj : j < 64) (hx : x < 65521) (hk : K[c].1 = j * 65536 + x) : K[c].2 = imgOf ta tb E j x := by
  obtain ⟨a, b, h1, h2, h3, h4⟩ := h.2.2.1 K[c] (List.getElem_mem _)
  have e1 : a = j := by omega
  have e2 : b = x := by omega
  rw [h4, e1, e2]

set_option maxHeartbeats 4000000 in
set_option maxRecDepth 100000 in
theorem c_X4_imageOf {D : va_G} {cB cI cJ cO : ClassId} {l : Launch} {d0 d1 d2 d3 d4 d5 mv kp : Nat} {ta tb cn mk mi : Nat → Nat} {K : List (Nat × Nat)} {E : List (Nat × Nat × Nat)} {j x : Int32} {ws : va_W} (g10 : ws[10]? = some (d0, .inr (5, [.ref d1, .ref d2, .ref d3, .ref d4, .ref d5, .int (nI mv), .int (nI kp)]))) (g11 : ws[11]? = some (d1, .inl (cI, 64, .inl (fun jj => nI (ta jj))))) (g12 : ws[12]? = some (d2, .inl (cI, 64, .inl (fun jj => nI (tb jj))))) (g13 : ws[13]? = some (d3, .inl (cI, 64, .inl (fun jj => nI (cn jj))))) (g14 : ws[14]? = some (d4, .inl (cI, 600, .inl (fun jj => nI (mk jj))))) (g15 : ws[15]? = some (d5, .inl (cI, 600, .inl (fun jj => nI (mi jj))))) (hHK : HdK mk mi K) (hKl : K.length = mv) (h600 : mv ≤ 600) (hPC : PermC ta tb cn K E) (hta : Tab ta tb) (hE3 : E.length ≤ 300) : CI D (TY cB cI cJ cO) l yX4_imageOf wsX4_imageOf ({ frames := 1, cells := 0, slots := 0, locals := 23 }) [.ref d0, .int j, .int x] ws (fun r ws' => r = imR ta tb E j x ∧ ws = ws') := by
  refine CI.of (cc := cX4_imageOf) (maxL := 5) (ret := (some .int)) (by decide) rfl (Nat.le_of_ble_eq_true rfl) ?_
  intro p e s m below meth c A C hK hP hD hA hS ls hl
  obtain ⟨hx, hb, hr, hml, hts, hown, hlocks, hnm⟩ := id C
  have fl_9 := hts (.fieldLink RX4 9 "TwinFinder$Permutations" "factor" "[I") (by decide +kernel)
  have fl_15 := hts (.fieldLink RX4 15 "TwinFinder$Permutations" "summand" "[I") (by decide +kernel)
  have fl_18 := hts (.fieldLink RX4 18 "TwinFinder$Permutations" "exchanges" "[I") (by decide +kernel)
  have fl_21 := hts (.fieldLink RX4 21 "TwinFinder$Permutations" "movedKey" "[I") (by decide +kernel)
  have fl_24 := hts (.fieldLink RX4 24 "TwinFinder$Permutations" "movedImage" "[I") (by decide +kernel)
  have fl_58 := hts (.fieldLink RX4 58 "TwinFinder$Permutations" "moved" "I") (by decide +kernel)
  have hin_X4 : ∀ w ∈ u_ws RX4 TX4 7, w ∈ wsX4_imageOf := by decide +kernel
  have hl : lv_has ls 5 [(0, .ref d0), (1, .int j), (2, .int x)] := hl
  have sm : Sm (fun _ => False) ws ws := Sm.rf
  have hc0 : (0 : Nat) ≤ 0 := by decide
  have hs0 : (0 : Nat) ≤ 0 := by decide
  refine lv_iload_n hx hb dX4_imageOf_0 rfl (lv_at hl 1 rfl) ?_
  refine CI.go (va_runS (As := [.int j]) (rest := []) ⟨hx, hb, hml, hown, hts⟩ (c_X4_isOne    _) (va_cwS 1 hts gX4_imageOf_X4_isOne rfl rfl rfl (by decide +kernel) ⟨Nat.le_of_ble_eq_true rfl, Nat.le_of_ble_eq_true rfl⟩) ⟨pw_blind, fun U hU hW => pw_pre hK hP hD hU hW⟩ rfl rfl hl.1 rfl (lv_room (Nat.le_of_ble_eq_true rfl)) dX4_imageOf_1 ⟨by decide, by decide⟩) hD hS hA (fun r_1 ws_2 H locs hp hP hD hS => ?_)
  obtain ⟨rfl, rfl⟩ := hp
  refine nx_if_eq (tgt := 14) hx hb (by cases isOut j (nI 0) (nI 63) <;> decide) dX4_imageOf_4 (by decide) (fun c_4 => ?_) (fun c_4 => ?_)
  · refine lv_iconst (v := -1) hx hb dX4_imageOf_14 (by decide) ?_
    exact CI.ret (v := (-1)) C hK hP hD hS rfl (⟨(by rw [imR, show imOk j x = false from by first | (rw [imOk, notB0 c_11]; simp; done) | (rw [imOk, notB0 c_4]; rfl)]; rfl), rfl⟩) hc0 hs0 dX4_imageOf_15
  · refine lv_iload_n hx hb dX4_imageOf_7 rfl (lv_at hl 2 rfl) ?_
    refine CI.go (va_runS (As := [.int x]) (rest := []) ⟨hx, hb, hml, hown, hts⟩ (c_X4_isNumber    _) (va_cwS 1 hts gX4_imageOf_X4_isNumber rfl rfl rfl (by decide +kernel) ⟨Nat.le_of_ble_eq_true rfl, Nat.le_of_ble_eq_true rfl⟩) ⟨pw_blind, fun U hU hW => pw_pre hK hP hD hU hW⟩ rfl rfl hl.1 rfl (lv_room (Nat.le_of_ble_eq_true rfl)) dX4_imageOf_8 ⟨by decide, by decide⟩) hD hS hA (fun r_3 ws_4 H locs hp hP hD hS => ?_)
    obtain ⟨rfl, rfl⟩ := hp
    refine nx_if_ne (tgt := 16) hx hb (by cases isOut x (nI 0) (nI 65520) <;> decide) dX4_imageOf_11 (by decide) (fun c_11 => ?_) (fun c_11 => ?_)
    · obtain ⟨j1, -, hj1, rfl⟩ := isOut_no (notB c_4) (by decide) (by decide)
      obtain ⟨x1, -, hx1, rfl⟩ := isOut_no (notB c_11) (by decide) (by decide)
      have hks : ∀ e ∈ K, e.1 < 2 ^ 31 := fun e he => by obtain ⟨a, b, h1, h2, h3, -⟩ := hPC.2.2.1 e he; omega
      obtain ⟨cc_, hLB⟩ := LB_ex hPC.2.1 (j1 * 65536 + x1)
      have hR : imR ta tb E (nI j1) (nI x1) = nI (imgOf ta tb E j1 x1) := by rw [imR, if_pos (show imOk (nI j1) (nI x1) = true from by rw [imOk, isOut_in (Nat.zero_le _) hj1 (by decide), isOut_in (Nat.zero_le _) hx1 (by decide)]; rfl), nI_clamp (by omega), nI_clamp (by omega)]
      refine lv_aload_n hx hb dX4_imageOf_16 rfl (lv_at hl 0 rfl) ?_
      refine va_get (D := D) (ci := 5) (v := .ref d3) (C := RX4) (T := TX4) (N := 7) hx hb hts hin_X4 hown hK hP 10 g10 rfl 2 (by decide) fl_18 (fun _ h9 => h9) rfl dX4_imageOf_17 ?_
      refine lv_iload_n hx hb dX4_imageOf_20 rfl (lv_at hl 1 rfl) ?_
      refine nx_iald hx hb hK hP 13 1 g13 rfl (k := j1) (by omega) (by decide) dX4_imageOf_21 ?_
      refine nx_if_le (tgt := 66) hx hb (by have := hPC.1 j1 (by omega); have := List.countP_le_length (p := fun e => e.1 == j1) (l := E); omega) dX4_imageOf_22 (by decide) (fun c_22 => ?_) (fun c_22 => ?_)
      · refine lv_aload_n hx hb dX4_imageOf_66 rfl (lv_at hl 0 rfl) ?_
        refine va_get (D := D) (ci := 5) (v := .ref d1) (C := RX4) (T := TX4) (N := 7) hx hb hts hin_X4 hown hK hP 10 g10 rfl 0 (by decide) fl_9 (fun _ h9 => h9) rfl dX4_imageOf_67 ?_
        refine lv_iload_n hx hb dX4_imageOf_70 rfl (lv_at hl 1 rfl) ?_
        refine nx_iald hx hb hK hP 11 1 g11 rfl (k := j1) (by omega) (by decide) dX4_imageOf_71 ?_
        refine lv_i2l (v := lN (ta j1)) hx hb dX4_imageOf_72 (nI_l (by have := hta j1 (by omega); omega)) ?_
        refine lv_iload_n hx hb dX4_imageOf_73 rfl (lv_at hl 2 rfl) ?_
        refine lv_i2l (v := lN (x1)) hx hb dX4_imageOf_74 (nI_l (by omega)) ?_
        refine nx_lmul hx hb dX4_imageOf_75 ?_
        refine lv_aload_n hx hb dX4_imageOf_76 rfl (lv_at hl 0 rfl) ?_
        refine va_get (D := D) (ci := 5) (v := .ref d2) (C := RX4) (T := TX4) (N := 7) hx hb hts hin_X4 hown hK hP 10 g10 rfl 1 (by decide) fl_15 (fun _ h9 => h9) rfl dX4_imageOf_77 ?_
        refine lv_iload_n hx hb dX4_imageOf_80 rfl (lv_at hl 1 rfl) ?_
        refine nx_iald hx hb hK hP 12 1 g12 rfl (k := j1) (by omega) (by decide) dX4_imageOf_81 ?_
        refine lv_i2l (v := lN (tb j1)) hx hb dX4_imageOf_82 (nI_l (by have := hta j1 (by omega); omega)) ?_
        refine nx_ladd hx hb dX4_imageOf_83 ?_
        refine lv_ldc2 (v := lN 65521) hx hb hown (hts (.constantLong RX4 61 65521) (by decide +kernel)) dX4_imageOf_84 ?_
        refine nx_lrem hx hb (img_b (hta j1 (by omega)) (by omega)) dX4_imageOf_87 ?_
        refine lv_l2i (v := nI ((((ta j1) * x1) + (tb j1)) % 65521)) hx hb dX4_imageOf_88 (lN_i _) ?_
        exact CI.ret (v := (nI ((((ta j1) * x1) + (tb j1)) % 65521))) C hK hP hD hS rfl (⟨(by rw [hR]; first | (rw [img_0 (cn_0 (by rw [← hPC.1 j1 (by omega)]; exact c_22))]; done) | (rw [hPC.2.2.2 j1 x1 (by omega) (by omega) (fun e he h9 => by obtain ⟨h1, h2⟩ := hLB.hit hPC.2.1 he h9; first | omega | exact c_55 (by rw [(hHK _ h1).1, h2]; exact h9))]; done)), rfl⟩) hc0 hs0 dX4_imageOf_89
      · refine lv_iload_n hx hb dX4_imageOf_25 rfl (lv_at hl 1 rfl) ?_
        refine lv_iload_n hx hb dX4_imageOf_26 rfl (lv_at hl 2 rfl) ?_
        refine CI.go (va_runS (As := [.int (nI j1), .int (nI x1)]) (rest := []) ⟨hx, hb, hml, hown, hts⟩ (c_X4_keyOf   (by omega) (by omega) _) (va_cwS 2 hts gX4_imageOf_X4_keyOf rfl rfl rfl (by decide +kernel) ⟨Nat.le_of_ble_eq_true rfl, Nat.le_of_ble_eq_true rfl⟩) ⟨pw_blind, fun U hU hW => pw_pre hK hP hD hU hW⟩ rfl rfl hl.1 rfl (lv_room (Nat.le_of_ble_eq_true rfl)) dX4_imageOf_27 ⟨by decide, by decide⟩) hD hS hA (fun r_5 ws_6 H locs hp hP hD hS => ?_)
        obtain ⟨rfl, rfl⟩ := hp
        refine lv_istore_n (lv' := [(3, .int (nI (j1 * 65536 + x1))), (0, .ref d0), (1, .int (nI j1)), (2, .int (nI x1))]) hx hb dX4_imageOf_30 rfl hl (by decide) rfl (fun ls hl => ?_)
        refine lv_aload_n hx hb dX4_imageOf_31 rfl (lv_at hl 1 rfl) ?_
        refine lv_iload_n hx hb dX4_imageOf_32 rfl (lv_at hl 0 rfl) ?_
        refine CI.go (va_runV (As := [.int (nI (j1 * 65536 + x1))]) (rest := []) ⟨hx, hb, hml, hown, hts⟩ (c_X4_placeFor  g10 g14 (fun i hi => (hHK i hi).1) hKl h600 hLB (by omega) hks _) (cwV 1 hts gX4_imageOf_X4_placeFor rfl rfl rfl (by decide +kernel) ⟨Nat.le_of_ble_eq_true rfl, Nat.le_of_ble_eq_true rfl⟩) ⟨pw_blind, va_recv hK hP (ci := 5) (q0 := 10) rfl g10, fun U hU hW => pw_pre hK hP hD hU hW⟩ rfl rfl hl.1 rfl (lv_room (Nat.le_of_ble_eq_true rfl)) dX4_imageOf_33 ⟨by decide, by decide⟩) hD hS hA (fun r_7 ws_8 H locs hp hP hD hS => ?_)
        obtain ⟨rfl, rfl⟩ := hp
        refine lv_istore (lv' := [(4, .int (nI cc_)), (3, .int (nI (j1 * 65536 + x1))), (0, .ref d0), (1, .int (nI j1)), (2, .int (nI x1))]) hx hb dX4_imageOf_36 hl (by decide) rfl (fun ls hl => ?_)
        refine lv_iload hx hb dX4_imageOf_38 (lv_at hl 0 rfl) ?_
        refine lv_aload_n hx hb dX4_imageOf_40 rfl (lv_at hl 2 rfl) ?_
        refine va_get (D := D) (ci := 5) (v := .int (nI mv)) (C := RX4) (T := TX4) (N := 7) hx hb hts hin_X4 hown hK hP 10 g10 rfl 5 (by decide) fl_58 (fun _ h9 => h9) rfl dX4_imageOf_41 ?_
        refine nx_icmp_ge (tgt := 66) hx hb (by have := hLB.1; omega) (by omega) dX4_imageOf_44 (by decide) (fun c_44 => ?_) (fun c_44 => ?_)
        · refine lv_aload_n hx hb dX4_imageOf_66 rfl (lv_at hl 2 rfl) ?_
          refine va_get (D := D) (ci := 5) (v := .ref d1) (C := RX4) (T := TX4) (N := 7) hx hb hts hin_X4 hown hK hP 10 g10 rfl 0 (by decide) fl_9 (fun _ h9 => h9) rfl dX4_imageOf_67 ?_
          refine lv_iload_n hx hb dX4_imageOf_70 rfl (lv_at hl 3 rfl) ?_
          refine nx_iald hx hb hK hP 11 1 g11 rfl (k := j1) (by omega) (by decide) dX4_imageOf_71 ?_
          refine lv_i2l (v := lN (ta j1)) hx hb dX4_imageOf_72 (nI_l (by have := hta j1 (by omega); omega)) ?_
          refine lv_iload_n hx hb dX4_imageOf_73 rfl (lv_at hl 4 rfl) ?_
          refine lv_i2l (v := lN (x1)) hx hb dX4_imageOf_74 (nI_l (by omega)) ?_
          refine nx_lmul hx hb dX4_imageOf_75 ?_
          refine lv_aload_n hx hb dX4_imageOf_76 rfl (lv_at hl 2 rfl) ?_
          refine va_get (D := D) (ci := 5) (v := .ref d2) (C := RX4) (T := TX4) (N := 7) hx hb hts hin_X4 hown hK hP 10 g10 rfl 1 (by decide) fl_15 (fun _ h9 => h9) rfl dX4_imageOf_77 ?_
          refine lv_iload_n hx hb dX4_imageOf_80 rfl (lv_at hl 3 rfl) ?_
          refine nx_iald hx hb hK hP 12 1 g12 rfl (k := j1) (by omega) (by decide) dX4_imageOf_81 ?_
          refine lv_i2l (v := lN (tb j1)) hx hb dX4_imageOf_82 (nI_l (by have := hta j1 (by omega); omega)) ?_
          refine nx_ladd hx hb dX4_imageOf_83 ?_
          refine lv_ldc2 (v := lN 65521) hx hb hown (hts (.constantLong RX4 61 65521) (by decide +kernel)) dX4_imageOf_84 ?_
          refine nx_lrem hx hb (img_b (hta j1 (by omega)) (by omega)) dX4_imageOf_87 ?_
          refine lv_l2i (v := nI ((((ta j1) * x1) + (tb j1)) % 65521)) hx hb dX4_imageOf_88 (lN_i _) ?_
          exact CI.ret (v := (nI ((((ta j1) * x1) + (tb j1)) % 65521))) C hK hP hD hS rfl (⟨(by rw [hR]; first | (rw [img_0 (cn_0 (by rw [← hPC.1 j1 (by omega)]; exact c_22))]; done) | (rw [hPC.2.2.2 j1 x1 (by omega) (by omega) (fun e he h9 => by obtain ⟨h1, h2⟩ := hLB.hit hPC.2.1 he h9; first | omega | exact c_55 (by rw [(hHK _ h1).1, h2]; exact h9))]; done)), rfl⟩) hc0 hs0 dX4_imageOf_89
        · refine lv_aload_n hx hb dX4_imageOf_47 rfl (lv_at hl 2 rfl) ?_
          refine va_get (D := D) (ci := 5) (v := .ref d4) (C := RX4) (T := TX4) (N := 7) hx hb hts hin_X4 hown hK hP 10 g10 rfl 3 (by decide) fl_21 (fun _ h9 => h9) rfl dX4_imageOf_48 ?_
          refine lv_iload hx hb dX4_imageOf_51 (lv_at hl 0 rfl) ?_
          refine nx_iald hx hb hK hP 14 1 g14 rfl (k := cc_) (by omega) (by decide) dX4_imageOf_53 ?_
          refine lv_iload_n hx hb dX4_imageOf_54 rfl (lv_at hl 1 rfl) ?_
          refine nx_icmp_ne (tgt := 66) hx hb (by rw [(hHK _ (by omega)).1]; exact hks _ (List.getElem_mem _)) (by omega) dX4_imageOf_55 (by decide) (fun c_55 => ?_) (fun c_55 => ?_)
          · refine lv_aload_n hx hb dX4_imageOf_66 rfl (lv_at hl 2 rfl) ?_
            refine va_get (D := D) (ci := 5) (v := .ref d1) (C := RX4) (T := TX4) (N := 7) hx hb hts hin_X4 hown hK hP 10 g10 rfl 0 (by decide) fl_9 (fun _ h9 => h9) rfl dX4_imageOf_67 ?_
            refine lv_iload_n hx hb dX4_imageOf_70 rfl (lv_at hl 3 rfl) ?_
            refine nx_iald hx hb hK hP 11 1 g11 rfl (k := j1) (by omega) (by decide) dX4_imageOf_71 ?_
            refine lv_i2l (v := lN (ta j1)) hx hb dX4_imageOf_72 (nI_l (by have := hta j1 (by omega); omega)) ?_
            refine lv_iload_n hx hb dX4_imageOf_73 rfl (lv_at hl 4 rfl) ?_
            refine lv_i2l (v := lN (x1)) hx hb dX4_imageOf_74 (nI_l (by omega)) ?_
            refine nx_lmul hx hb dX4_imageOf_75 ?_
            refine lv_aload_n hx hb dX4_imageOf_76 rfl (lv_at hl 2 rfl) ?_
            refine va_get (D := D) (ci := 5) (v := .ref d2) (C := RX4) (T := TX4) (N := 7) hx hb hts hin_X4 hown hK hP 10 g10 rfl 1 (by decide) fl_15 (fun _ h9 => h9) rfl dX4_imageOf_77 ?_
            refine lv_iload_n hx hb dX4_imageOf_80 rfl (lv_at hl 3 rfl) ?_
            refine nx_iald hx hb hK hP 12 1 g12 rfl (k := j1) (by omega) (by decide) dX4_imageOf_81 ?_
            refine lv_i2l (v := lN (tb j1)) hx hb dX4_imageOf_82 (nI_l (by have := hta j1 (by omega); omega)) ?_
            refine nx_ladd hx hb dX4_imageOf_83 ?_
            refine lv_ldc2 (v := lN 65521) hx hb hown (hts (.constantLong RX4 61 65521) (by decide +kernel)) dX4_imageOf_84 ?_
            refine nx_lrem hx hb (img_b (hta j1 (by omega)) (by omega)) dX4_imageOf_87 ?_
            refine lv_l2i (v := nI ((((ta j1) * x1) + (tb j1)) % 65521)) hx hb dX4_imageOf_88 (lN_i _) ?_
            exact CI.ret (v := (nI ((((ta j1) * x1) + (tb j1)) % 65521))) C hK hP hD hS rfl (⟨(by rw [hR]; first | (rw [img_0 (cn_0 (by rw [← hPC.1 j1 (by omega)]; exact c_22))]; done) | (rw [hPC.2.2.2 j1 x1 (by omega) (by omega) (fun e he h9 => by obtain ⟨h1, h2⟩ := hLB.hit hPC.2.1 he h9; first | omega | exact c_55 (by rw [(hHK _ h1).1, h2]; exact h9))]; done)), rfl⟩) hc0 hs0 dX4_imageOf_89
          · refine lv_aload_n hx hb dX4_imageOf_58 rfl (lv_at hl 2 rfl) ?_
            refine va_get (D := D) (ci := 5) (v := .ref d5) (C := RX4) (T := TX4) (N := 7) hx hb hts hin_X4 hown hK hP 10 g10 rfl 4 (by decide) fl_24 (fun _ h9 => h9) rfl dX4_imageOf_59 ?_
            refine lv_iload hx hb dX4_imageOf_62 (lv_at hl 0 rfl) ?_
            refine nx_iald hx hb hK hP 15 1 g15 rfl (k := cc_) (by omega) (by decide) dX4_imageOf_64 ?_
            exact CI.ret (v := (nI (mi cc_))) C hK hP hD hS rfl (⟨(by rw [hR, (hHK _ (by omega)).2]; exact congrArg nI (pc_hit hPC (by omega) (by omega) (by omega) (by rw [← (hHK _ (by omega)).1]; exact c_55))), rfl⟩) hc0 hs0 dX4_imageOf_65
    · refine lv_iconst (v := -1) hx hb dX4_imageOf_14 (by decide) ?_
      exact CI.ret (v := (-1)) C hK hP hD hS rfl (⟨(by rw [imR, show imOk j x = false from by first | (rw [imOk, notB0 c_11]; simp; done) | (rw [imOk, notB0 c_4]; rfl)]; rfl), rfl⟩) hc0 hs0 dX4_imageOf_15
