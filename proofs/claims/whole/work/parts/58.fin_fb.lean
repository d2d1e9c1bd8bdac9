set_option maxHeartbeats 4000000 in
set_option maxRecDepth 100000 in
theorem c_X8_image {D : va_G} {cB cI cJ cO : ClassId} {l : Launch} {z0 a1 t0 d0 s0 e0 k0 al so wi : Nat} {d1 d2 d3 d4 d5 mv kp : Nat} {ta tb cn mk mi : Nat → Nat} {K : List (Nat × Nat)} {E : List (Nat × Nat × Nat)} {j x : Int32} {ws : va_W} (g0 : ws[0]? = some (z0, .inr (9, [.ref a1, .ref t0, .ref d0, .ref s0, .ref e0, .ref k0, .ref al, .int (nI so), .int (nI wi)]))) (g10 : ws[10]? = some (d0, .inr (5, [.ref d1, .ref d2, .ref d3, .ref d4, .ref d5, .int (nI mv), .int (nI kp)]))) (g11 : ws[11]? = some (d1, .inl (cI, 64, .inl (fun jj => nI (ta jj))))) (g12 : ws[12]? = some (d2, .inl (cI, 64, .inl (fun jj => nI (tb jj))))) (g13 : ws[13]? = some (d3, .inl (cI, 64, .inl (fun jj => nI (cn jj))))) (g14 : ws[14]? = some (d4, .inl (cI, 600, .inl (fun jj => nI (mk jj))))) (g15 : ws[15]? = some (d5, .inl (cI, 600, .inl (fun jj => nI (mi jj))))) (hHK : HdK mk mi K) (hKl : K.length = mv) (h600 : mv ≤ 600) (hPC : PermC ta tb cn K E) (hta : Tab ta tb) (hE3 : E.length ≤ 300) : CI D (TY cB cI cJ cO) l yX8_image wsX8_image ({ frames := 2, cells := 0, slots := 0, locals := 47 }) [.ref z0, .int j, .int x] ws (fun r ws' => r = imR ta tb E j x ∧ ws = ws') := by
  refine CI.of (cc := cX8_image) (maxL := 3) (ret := (some .int)) (by decide) rfl (Nat.le_of_ble_eq_true rfl) ?_
  intro p e s m below meth c A C hK hP hD hA hS ls hl
  obtain ⟨hx, hb, hr, hml, hts, hown, hlocks, hnm⟩ := id C
  have fl_26 := hts (.fieldLink RX8 26 "TwinFinder" "permutations" "LTwinFinder$Permutations;") (by decide +kernel)
  have hin_X8 : ∀ w ∈ u_ws RX8 TX8 9, w ∈ wsX8_image := by decide +kernel
  have hl : lv_has ls 3 [(0, .ref z0), (1, .int j), (2, .int x)] := hl
  have sm : Sm (fun _ => False) ws ws := Sm.rf
  have hc0 : (0 : Nat) ≤ 0 := by decide
  have hs0 : (0 : Nat) ≤ 0 := by decide
  refine lv_aload_n hx hb dX8_image_0 rfl (lv_at hl 0 rfl) ?_
  refine va_get (D := D) (ci := 9) (v := .ref d0) (C := RX8) (T := TX8) (N := 9) hx hb hts hin_X8 hown hK hP 0 g0 rfl 2 (by decide) fl_26 (fun _ h9 => h9) rfl dX8_image_1 ?_
  refine lv_iload_n hx hb dX8_image_4 rfl (lv_at hl 1 rfl) ?_
  refine lv_iload_n hx hb dX8_image_5 rfl (lv_at hl 2 rfl) ?_
  refine CI.go (va_runV (As := [.int j, .int x]) (rest := []) ⟨hx, hb, hml, hown, hts⟩ (c_X4_imageOf  g10 g11 g12 g13 g14 g15 hHK hKl h600 hPC hta hE3 _) (cwV 2 hts gX8_image_X4_imageOf rfl rfl rfl (by decide +kernel) ⟨Nat.le_of_ble_eq_true rfl, Nat.le_of_ble_eq_true rfl⟩) ⟨pw_blind, va_recv hK hP (ci := 5) (q0 := 10) rfl g10, fun U hU hW => pw_pre hK hP hD hU hW⟩ rfl rfl hl.1 rfl (lv_room (Nat.le_of_ble_eq_true rfl)) dX8_image_6 ⟨Nat.le_of_ble_eq_true rfl, Nat.le_of_ble_eq_true rfl⟩) hD hS hA (fun r_1 ws_2 H locs hp hP hD hS => ?_)
  obtain ⟨rfl, rfl⟩ := hp
  exact CI.ret (v := (imR ta tb E j x)) C hK hP hD hS rfl (⟨rfl, rfl⟩) hc0 hs0 dX8_image_9
set_option maxHeartbeats 4000000 in
set_option maxRecDepth 100000 in
theorem c_X8_letter {D : va_G} {cB cI cJ cO : ClassId} {l : Launch} {z0 a1 t0 d0 s0 e0 k0 al so wi : Nat} {t1 t2 t3 t4 nm : Nat} {lf : Nat → Int32} {bf sf se : Nat → Nat} {sh : List (List Int32)} {x k : Int32} {ws : va_W} (g0 : ws[0]? = some (z0, .inr (9, [.ref a1, .ref t0, .ref d0, .ref s0, .ref e0, .ref k0, .ref al, .int (nI so), .int (nI wi)]))) (g5 : ws[5]? = some (t0, .inr (7, [.ref t1, .ref t2, .ref t3, .ref t4, .int (nI nm)]))) (g6 : ws[6]? = some (t1, .inl (cB, 50000, .inl lf))) (g7 : ws[7]? = some (t2, .inl (cI, 6001, .inl (fun jj => nI (bf jj))))) (hst : StC sh lf bf sf se) (hsn : sh.length = nm) (hn6 : nm ≤ 6000) (hby : sh.flatten.length ≤ 50000) : CI D (TY cB cI cJ cO) l yX8_letter wsX8_letter ({ frames := 1, cells := 0, slots := 0, locals := 22 }) [.ref z0, .int x, .int k] ws (fun r ws' => r = letR sh x k ∧ ws = ws') := by
  refine CI.of (cc := cX8_letter) (maxL := 3) (ret := (some .int)) (by decide) rfl (Nat.le_of_ble_eq_true rfl) ?_
  intro p e s m below meth c A C hK hP hD hA hS ls hl
  obtain ⟨hx, hb, hr, hml, hts, hown, hlocks, hnm⟩ := id C
  have fl_19 := hts (.fieldLink RX8 19 "TwinFinder" "store" "LTwinFinder$Store;") (by decide +kernel)
  have hin_X8 : ∀ w ∈ u_ws RX8 TX8 9, w ∈ wsX8_letter := by decide +kernel
  have hl : lv_has ls 3 [(0, .ref z0), (1, .int x), (2, .int k)] := hl
  have sm : Sm (fun _ => False) ws ws := Sm.rf
  have hc0 : (0 : Nat) ≤ 0 := by decide
  have hs0 : (0 : Nat) ≤ 0 := by decide
  refine lv_aload_n hx hb dX8_letter_0 rfl (lv_at hl 0 rfl) ?_
  refine va_get (D := D) (ci := 9) (v := .ref t0) (C := RX8) (T := TX8) (N := 9) hx hb hts hin_X8 hown hK hP 0 g0 rfl 1 (by decide) fl_19 (fun _ h9 => h9) rfl dX8_letter_1 ?_
  refine lv_iload_n hx hb dX8_letter_4 rfl (lv_at hl 1 rfl) ?_
  refine lv_iload_n hx hb dX8_letter_5 rfl (lv_at hl 2 rfl) ?_
  refine CI.go (va_runV (As := [.int x, .int k]) (rest := []) ⟨hx, hb, hml, hown, hts⟩ (c_X6_byteOf  g5 g6 g7 hst hsn hn6 hby _) (cwV 2 hts gX8_letter_X6_byteOf rfl rfl rfl (by decide +kernel) ⟨Nat.le_of_ble_eq_true rfl, Nat.le_of_ble_eq_true rfl⟩) ⟨pw_blind, va_recv hK hP (ci := 7) (q0 := 5) rfl g5, fun U hU hW => pw_pre hK hP hD hU hW⟩ rfl rfl hl.1 rfl (lv_room (Nat.le_of_ble_eq_true rfl)) dX8_letter_6 ⟨Nat.le_of_ble_eq_true rfl, Nat.le_of_ble_eq_true rfl⟩) hD hS hA (fun r_1 ws_2 H locs hp hP hD hS => ?_)
  obtain ⟨rfl, rfl⟩ := hp
  exact CI.ret (v := (letR sh x k)) C hK hP hD hS rfl (⟨rfl, rfl⟩) hc0 hs0 dX8_letter_9
