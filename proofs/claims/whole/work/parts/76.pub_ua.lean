set_option maxHeartbeats 4000000 in
set_option maxRecDepth 100000 in
theorem c_X8_remove {D : va_G} {cB cI cJ cO : ClassId} {l : Launch} {ad mi : Nat} {z0 a1 t0 d0 e0 k0 al so wi : Nat} {k1 k4 k7 k8 k9 k10 plc kn : Nat} {s0 s1 s2 s3 ca eh es er nd : Nat} {dd : Nat → DX} {HS SS RS : List Nat} {x : Int32} {ws : va_W} (g0 : ws[0]? = some (z0, .inr (9, [.ref a1, .ref t0, .ref d0, .ref s0, .ref e0, .ref k0, .ref al, .int (nI so), .int (nI wi)]))) (g21 : ws[21]? = some (k0, .inr (2, [.ref k1, .ref k4, .ref k7, .ref k8, .ref k9, .ref k10, .int (nI plc), .int (nI kn)]))) (hSW : ShW ws cI cJ cO ad s0 s1 s2 s3 ca eh es er nd dd HS SS RS) (hnd : nd ≤ 48) : CIX D (TY cB cI cJ cO) l yX8_remove wsX8_remove ({ frames := 8, cells := 1, slots := 49, locals := 193 }) ad mi [.ref z0, .int x] ws (fun r ws' => ∃ es2 : Nat, r = nI ((slotOf (HS.map (fun t => (dd t).2.2.1.1)) x).isSome.toNat) ∧ (ShW ws' cI cJ cO ad s0 s1 s2 s3 ca eh es2 er nd dd (rmH HS (slotOf (HS.map (fun t => (dd t).2.2.1.1)) x)) (adSp SS HS (slotOf (HS.map (fun t => (dd t).2.2.1.1)) x)) RS) ∧ Sm (fun k => k = 21 ∨ k = 17 ∨ k = 18 ∨ 51 ≤ k) ws ws' ∧ ws'[21]? = some (k0, .inr (2, [.ref k1, .ref k4, .ref k7, .ref k8, .ref k9, .ref k10, .int (nI plc), .int (nI (bif (slotOf (HS.map (fun t => (dd t).2.2.1.1)) x).isSome then 0 else kn))]))) := by
  refine CIX.of (cc := cX8_remove) (maxL := 3) (ret := (some .boolean)) (by decide) rfl (Nat.le_of_ble_eq_true rfl) ?_
  intro p e s m below meth c A C hK hP hD hA hS hX ls hl
  have hN := hX.1
  obtain ⟨hx, hb, hr, hml, hts, hown, hlocks, hnm⟩ := id C
  have fl_33 := hts (.fieldLink RX8 33 "TwinFinder" "shelf" "LTwinFinder$Shelf;") (by decide +kernel)
  have fl_47 := hts (.fieldLink RX8 47 "TwinFinder" "kin" "LTwinFinder$Kin;") (by decide +kernel)
  have fl_115 := hts (.fieldLink RX8 115 "TwinFinder$Kin" "known" "Z") (by decide +kernel)
  have hin_X1 : ∀ w ∈ u_ws RX1 TX1 8, w ∈ wsX8_remove := by decide +kernel
  have hin_X8 : ∀ w ∈ u_ws RX8 TX8 9, w ∈ wsX8_remove := by decide +kernel
  have hl : lv_has ls 3 [(0, .ref z0), (1, .int x)] := hl
  have sm : Sm (fun k => k = 21 ∨ k = 17 ∨ k = 18 ∨ 51 ≤ k) ws ws := Sm.rf
  have hc0 : (0 : Nat) ≤ 1 := by decide
  have hs0 : (0 : Nat) ≤ 49 := by decide
  have g16 := hSW.1
  refine lv_aload_n hx hb dX8_remove_0 rfl (lv_at hl 0 rfl) ?_
  refine va_get (D := D) (ci := 9) (v := .ref s0) (C := RX8) (T := TX8) (N := 9) hx hb hts hin_X8 hown hK hP 0 g0 rfl 3 (by decide) fl_33 (fun _ h9 => h9) rfl dX8_remove_1 ?_
  refine lv_iload_n hx hb dX8_remove_4 rfl (lv_at hl 1 rfl) ?_
  refine CI.go (va_runV (As := [.int x]) (rest := []) ⟨hx, hb, hml, hown, hts⟩ (c_X5_putAway   hSW hnd _) (cwV 1 hts gX8_remove_X5_putAway rfl rfl rfl (by decide +kernel) ⟨Nat.le_of_ble_eq_true rfl, Nat.le_of_ble_eq_true rfl⟩) ⟨pwx_blind, va_recv hK hP (ci := 6) (q0 := 16) rfl g16, fun U hU hW => pwx_pre hX hA hS hK hP hD hU hW⟩ rfl rfl hl.1 rfl (lv_room (Nat.le_of_ble_eq_true rfl)) dX8_remove_5 ⟨Nat.le_of_ble_eq_true rfl, Nat.le_of_ble_eq_true rfl⟩) hD hS hA (fun r_1 ws_2 H locs hp hP hD hS => ?_)
  obtain ⟨es2, rfl, hSW, smP⟩ := hp
  have g0 := smP.get g0 (by simp)
  have g21 := smP.get g21 (by simp)
  have g16 := smP.get g16 (by simp)
  have sm := sm.call smP (fun k hk => by (try simp only at hk ⊢); omega)
  refine W.widen (k := 1) (n := 49) (Nat.le_of_ble_eq_true rfl) (Nat.le_of_ble_eq_true rfl) ?_
  refine lv_istore_n (lv' := [(2, .int (nI ((slotOf (HS.map (fun t => (dd t).2.2.1.1)) x).isSome.toNat))), (0, .ref z0), (1, .int x)]) hx hb dX8_remove_8 rfl hl (by decide) rfl (fun ls hl => ?_)
  refine lv_iload_n hx hb dX8_remove_9 rfl (lv_at hl 0 rfl) ?_
  refine nx_if_eq (tgt := 21) hx hb (by exact bn2 _) dX8_remove_10 (by decide) (fun c_10 => ?_) (fun c_10 => ?_)
  · refine lv_iload_n hx hb dX8_remove_21 rfl (lv_at hl 0 rfl) ?_
    have hok : (slotOf (HS.map (fun t => (dd t).2.2.1.1)) x).isSome = false := bool0 c_10
    have g21 : ws_2[21]? = some (k0, .inr (2, [.ref k1, .ref k4, .ref k7, .ref k8, .ref k9, .ref k10, .int (nI plc), .int (nI (bif (slotOf (HS.map (fun t => (dd t).2.2.1.1)) x).isSome then 0 else kn))])) := by rw [hok]; exact g21
    exact CI.ret (v := (nI ((slotOf (HS.map (fun t => (dd t).2.2.1.1)) x).isSome.toNat))) C hK hP hD hS (by cases (slotOf (HS.map (fun t => (dd t).2.2.1.1)) x).isSome <;> decide) (⟨es2, rfl, hSW, sm, g21⟩) (by decide) (by decide) dX8_remove_22
  · refine lv_aload_n hx hb dX8_remove_13 rfl (lv_at hl 1 rfl) ?_
    refine va_get (D := D) (ci := 9) (v := .ref k0) (C := RX8) (T := TX8) (N := 9) hx hb hts hin_X8 hown hK hP 0 g0 rfl 5 (by decide) fl_47 (fun _ h9 => h9) rfl dX8_remove_14 ?_
    refine lv_iconst (v := nI 0) hx hb dX8_remove_17 (by decide) ?_
    refine nx_put (D := D) (ci := 2) (v := .int (nI 0)) (ty := .boolean) (C := RX1) (T := TX1) (N := 8) hx hb hts hin_X1 tyX1 tyX1_ok nmX1 hown hK hP hD hS 21 g21 rfl 7 (by decide) fl_115 (fun _ h9 => h9) rfl (by decide +kernel) (by decide) (by decide) (Nat.le_of_ble_eq_true rfl) dX8_remove_18 (fun ws_3 H locs gq up_4 hP hD hS => ?_)
    have g21 : ws_3[21]? = some (k0, .inr (2, [.ref k1, .ref k4, .ref k7, .ref k8, .ref k9, .ref k10, .int (nI plc), .int (nI 0)])) := gq
    have g0 := up_4.get g0 (by decide)
    have g16 := up_4.get g16 (by decide)
    have sm := sm.up up_4 (by first | (simp; done) | ((try simp only); omega))
    refine lv_iload_n hx hb dX8_remove_21 rfl (lv_at hl 0 rfl) ?_
    have hok : (slotOf (HS.map (fun t => (dd t).2.2.1.1)) x).isSome = true := bool1 c_10
    have g21 : ws_3[21]? = some (k0, .inr (2, [.ref k1, .ref k4, .ref k7, .ref k8, .ref k9, .ref k10, .int (nI plc), .int (nI (bif (slotOf (HS.map (fun t => (dd t).2.2.1.1)) x).isSome then 0 else kn))])) := by rw [hok]; exact g21
    have hSW := hSW.low (K := fun k => k = 21) ⟨Nat.le_of_eq up_4.1.symm, fun k _ hn => up_4.2 k hn⟩ (fun k hk => by (try simp only at hk); omega)
    exact CI.ret (v := (nI ((slotOf (HS.map (fun t => (dd t).2.2.1.1)) x).isSome.toNat))) C hK hP hD hS (by cases (slotOf (HS.map (fun t => (dd t).2.2.1.1)) x).isSome <;> decide) (⟨es2, rfl, hSW, sm, g21⟩) (by decide) (by decide) dX8_remove_22
