set_option maxHeartbeats 4000000 in
set_option maxRecDepth 100000 in
theorem c_X8_exchange {D : va_G} {cB cI cJ cO : ClassId} {l : Launch} {z0 a1 t0 d0 e0 k0 al so wi : Nat} {k1 k4 k7 k8 k9 k10 plc kn : Nat} {d1 d2 d3 d4 d5 mv kp : Nat} {ta tb cn mk mi : Nat → Nat} {K : List (Nat × Nat)} {E : List (Nat × Nat × Nat)} {ad : Nat} {s0 s1 s2 s3 ca eh es er nd : Nat} {dd : Nat → DX} {HS SS RS : List Nat} {dL : Nat → List Nat} {j x y : Int32} {ws : va_W} (g0 : ws[0]? = some (z0, .inr (9, [.ref a1, .ref t0, .ref d0, .ref s0, .ref e0, .ref k0, .ref al, .int (nI so), .int (nI wi)]))) (g21 : ws[21]? = some (k0, .inr (2, [.ref k1, .ref k4, .ref k7, .ref k8, .ref k9, .ref k10, .int (nI plc), .int (nI kn)]))) (g10 : ws[10]? = some (d0, .inr (5, [.ref d1, .ref d2, .ref d3, .ref d4, .ref d5, .int (nI mv), .int (nI kp)]))) (g11 : ws[11]? = some (d1, .inl (cI, 64, .inl (fun jj => nI (ta jj))))) (g12 : ws[12]? = some (d2, .inl (cI, 64, .inl (fun jj => nI (tb jj))))) (g13 : ws[13]? = some (d3, .inl (cI, 64, .inl (fun jj => nI (cn jj))))) (g14 : ws[14]? = some (d4, .inl (cI, 600, .inl (fun jj => nI (mk jj))))) (g15 : ws[15]? = some (d5, .inl (cI, 600, .inl (fun jj => nI (mi jj))))) (hHK : HdK mk mi K) (hKl : K.length = mv) (h600 : mv ≤ 600) (hPC : PermC ta tb cn K E) (hta : Tab ta tb) (hE3 : E.length ≤ 300) (hkp : E.length = kp) (hK2 : KeyIn K E) (hsm : Esm E) (hSW : ShW ws cI cJ cO ad s0 s1 s2 s3 ca eh es er nd dd HS SS RS) (hnd : nd ≤ 48) (hdL : ∀ t ∈ HS, DOk (dd t) (dL t)) : CI D (TY cB cI cJ cO) l yX8_exchange wsX8_exchange ({ frames := 4, cells := 0, slots := 0, locals := 94 }) [.ref z0, .int j, .int x, .int y] ws (fun r ws' => ∃ cn2 : Nat → Nat, ∃ mk2 : Nat → Nat, ∃ mi2 : Nat → Nat, ∃ K2 : List (Nat × Nat), r = exR E j x y ∧ (HdK mk2 mi2 K2) ∧ (PermC ta tb cn2 K2 (exL E j x y)) ∧ (KeyIn K2 (exL E j x y)) ∧ (ShW ws' cI cJ cO ad s0 s1 s2 s3 ca eh es er nd (bif exOk j x y E.length then rnA dd j.toNatClampNeg (fun t => sgOf ta tb (exL E j x y) (dL t) j.toNatClampNeg) HS else dd) HS SS RS) ∧ Sm (fun k => k = 21 ∨ k = 10 ∨ k = 11 ∨ k = 12 ∨ k = 13 ∨ k = 14 ∨ k = 15 ∨ 51 ≤ k) ws ws' ∧ ws'[21]? = some (k0, .inr (2, [.ref k1, .ref k4, .ref k7, .ref k8, .ref k9, .ref k10, .int (nI plc), .int (nI (bif exOk j x y E.length then 0 else kn))])) ∧ ws'[10]? = some (d0, .inr (5, [.ref d1, .ref d2, .ref d3, .ref d4, .ref d5, .int (nI (K2.length)), .int (nI ((exL E j x y).length))])) ∧ ws'[11]? = some (d1, .inl (cI, 64, .inl (fun jj => nI (ta jj)))) ∧ ws'[12]? = some (d2, .inl (cI, 64, .inl (fun jj => nI (tb jj)))) ∧ ws'[13]? = some (d3, .inl (cI, 64, .inl (fun jj => nI (cn2 jj)))) ∧ ws'[14]? = some (d4, .inl (cI, 600, .inl (fun jj => nI (mk2 jj)))) ∧ ws'[15]? = some (d5, .inl (cI, 600, .inl (fun jj => nI (mi2 jj))))) := by
  refine CI.of (cc := cX8_exchange) (maxL := 4) (ret := (some .int)) (by decide) rfl (Nat.le_of_ble_eq_true rfl) ?_
  intro p e s m below meth c A C hK hP hD hA hS ls hl
  obtain ⟨hx, hb, hr, hml, hts, hown, hlocks, hnm⟩ := id C
  have fl_26 := hts (.fieldLink RX8 26 "TwinFinder" "permutations" "LTwinFinder$Permutations;") (by decide +kernel)
  have fl_145 := hts (.fieldLink RX8 145 "TwinFinder$Permutations" "kept" "I") (by decide +kernel)
  have hin_X4 : ∀ w ∈ u_ws RX4 TX4 7, w ∈ wsX8_exchange := by decide +kernel
  have hin_X8 : ∀ w ∈ u_ws RX8 TX8 9, w ∈ wsX8_exchange := by decide +kernel
  have hl : lv_has ls 4 [(0, .ref z0), (1, .int j), (2, .int x), (3, .int y)] := hl
  have sm : Sm (fun k => k = 21 ∨ k = 10 ∨ k = 11 ∨ k = 12 ∨ k = 13 ∨ k = 14 ∨ k = 15 ∨ 51 ≤ k) ws ws := Sm.rf
  have hc0 : (0 : Nat) ≤ 0 := by decide
  have hs0 : (0 : Nat) ≤ 0 := by decide
  refine lv_aload_n hx hb dX8_exchange_0 rfl (lv_at hl 0 rfl) ?_
  refine va_get (D := D) (ci := 9) (v := .ref d0) (C := RX8) (T := TX8) (N := 9) hx hb hts hin_X8 hown hK hP 0 g0 rfl 2 (by decide) fl_26 (fun _ h9 => h9) rfl dX8_exchange_1 ?_
  refine lv_iload_n hx hb dX8_exchange_4 rfl (lv_at hl 1 rfl) ?_
  refine lv_iload_n hx hb dX8_exchange_5 rfl (lv_at hl 2 rfl) ?_
  refine lv_iload_n hx hb dX8_exchange_6 rfl (lv_at hl 3 rfl) ?_
  refine CI.go (va_runV (As := [.int j, .int x, .int y]) (rest := []) ⟨hx, hb, hml, hown, hts⟩ (c_X4_swap  g10 g11 g12 g13 g14 g15 hHK hKl h600 hPC hta hE3 hkp hK2 hsm _) (cwV 3 hts gX8_exchange_X4_swap rfl rfl rfl (by decide +kernel) ⟨Nat.le_of_ble_eq_true rfl, Nat.le_of_ble_eq_true rfl⟩) ⟨pw_blind, va_recv hK hP (ci := 5) (q0 := 10) rfl g10, fun U hU hW => pw_pre hK hP hD hU hW⟩ rfl rfl hl.1 rfl (lv_room (Nat.le_of_ble_eq_true rfl)) dX8_exchange_7 ⟨Nat.le_of_ble_eq_true rfl, Nat.le_of_ble_eq_true rfl⟩) hD hS hA (fun r_1 ws_2 H locs hp hP hD hS => ?_)
  obtain ⟨cn2, mk2, mi2, K2, rfl, hHK2, hPC2, hK2l, smP, g10, g11, g12, g13, g14, g15⟩ := hp
  have g0 := smP.get g0 (by simp)
  have g21 := smP.get g21 (by simp)
  have sm := sm.call smP (fun k hk => by (try simp only at hk ⊢); omega)
  have g10 : ws_2[10]? = some (d0, .inr (5, [.ref d1, .ref d2, .ref d3, .ref d4, .ref d5, .int (nI (K2.length)), .int (nI ((exL E j x y).length))])) := g10
  have g11 : ws_2[11]? = some (d1, .inl (cI, 64, .inl (fun jj => nI (ta jj)))) := g11
  have g12 : ws_2[12]? = some (d2, .inl (cI, 64, .inl (fun jj => nI (tb jj)))) := g12
  have g13 : ws_2[13]? = some (d3, .inl (cI, 64, .inl (fun jj => nI (cn2 jj)))) := g13
  have g14 : ws_2[14]? = some (d4, .inl (cI, 600, .inl (fun jj => nI (mk2 jj)))) := g14
  have g15 : ws_2[15]? = some (d5, .inl (cI, 600, .inl (fun jj => nI (mi2 jj)))) := g15
  have hSW := hSW.low smP (fun k hk => by (try simp only at hk); omega)
  have hkl2 := hK2l.len hPC2.2.1
  have hel2 := exL_len (j := j) (x := x) (y := y) hE3
  refine nx_if_ne (tgt := 15) hx hb (by exact bn2 _) dX8_exchange_10 (by decide) (fun c_10 => ?_) (fun c_10 => ?_)
  · have hok : exOk j x y E.length = true := bool1 c_10
    obtain ⟨j1, hj1, rfl⟩ := ex_j hok
    refine lv_aload_n hx hb dX8_exchange_15 rfl (lv_at hl 0 rfl) ?_
    refine lv_iload_n hx hb dX8_exchange_16 rfl (lv_at hl 1 rfl) ?_
    refine CV.go (va_runV (As := [.int (nI j1)]) (rest := []) ⟨hx, hb, hml, hown, hts⟩ (c_X8_renewImages  g0 g21 g10 g11 g12 g13 g14 g15 hHK2 rfl (by omega) hPC2 hta (by omega) hSW hnd hj1 hdL _) (cwV 1 hts gX8_exchange_X8_renewImages rfl rfl rfl (by decide +kernel) ⟨Nat.le_of_ble_eq_true rfl, Nat.le_of_ble_eq_true rfl⟩) ⟨pw_blind, va_recv hK hP (ci := 9) (q0 := 0) rfl g0, fun U hU hW => pw_pre hK hP hD hU hW⟩ rfl rfl hl.1 rfl (lv_room (Nat.le_of_ble_eq_true rfl)) dX8_exchange_17 ⟨Nat.le_of_ble_eq_true rfl, Nat.le_of_ble_eq_true rfl⟩) hD hS hA (fun ws_4 H locs hp hP hD hS => ?_)
    obtain ⟨hSW, smN, g21⟩ := hp
    have g0 := smN.get g0 (by simp)
    have g10 := smN.get g10 (by simp)
    have g11 := smN.get g11 (by simp)
    have g12 := smN.get g12 (by simp)
    have g13 := smN.get g13 (by simp)
    have g14 := smN.get g14 (by simp)
    have g15 := smN.get g15 (by simp)
    have sm := sm.call smN (fun k hk => by (try simp only at hk ⊢); omega)
    have g21 : ws_4[21]? = some (k0, .inr (2, [.ref k1, .ref k4, .ref k7, .ref k8, .ref k9, .ref k10, .int (nI plc), .int (nI 0)])) := g21
    refine lv_aload_n hx hb dX8_exchange_20 rfl (lv_at hl 0 rfl) ?_
    refine va_get (D := D) (ci := 9) (v := .ref d0) (C := RX8) (T := TX8) (N := 9) hx hb hts hin_X8 hown hK hP 0 g0 rfl 2 (by decide) fl_26 (fun _ h9 => h9) rfl dX8_exchange_21 ?_
    refine va_get (D := D) (ci := 5) (v := .int (nI ((exL E (nI j1) x y).length))) (C := RX4) (T := TX4) (N := 7) hx hb hts hin_X4 hown hK hP 10 g10 rfl 6 (by decide) fl_145 (fun _ h9 => h9) rfl dX8_exchange_24 ?_
    have g21 : ws_4[21]? = some (k0, .inr (2, [.ref k1, .ref k4, .ref k7, .ref k8, .ref k9, .ref k10, .int (nI plc), .int (nI (bif exOk (nI j1) x y E.length then 0 else kn))])) := by rw [hok]; exact g21
    exact CI.ret (v := (nI ((exL E (nI j1) x y).length))) C hK hP hD hS rfl (⟨_, _, _, _, (by rw [exR, if_pos hok, exL, if_pos hok, List.length_append]; rfl), hHK2, hPC2, hK2l, (by rw [hok, nI_clamp (by omega)]; exact hSW), sm, g21, g10, g11, g12, g13, g14, g15⟩) hc0 hs0 dX8_exchange_27
  · refine lv_iconst (v := -1) hx hb dX8_exchange_13 (by decide) ?_
    have hno : exOk j x y E.length = false := bool0 c_10
    have g21 : ws_2[21]? = some (k0, .inr (2, [.ref k1, .ref k4, .ref k7, .ref k8, .ref k9, .ref k10, .int (nI plc), .int (nI (bif exOk j x y E.length then 0 else kn))])) := by rw [hno]; exact g21
    exact CI.ret (v := (-1)) C hK hP hD hS rfl (⟨_, _, _, _, (by rw [exR, hno]; rfl), hHK2, hPC2, hK2l, (by rw [hno]; exact hSW), sm, g21, g10, g11, g12, g13, g14, g15⟩) hc0 hs0 dX8_exchange_14
