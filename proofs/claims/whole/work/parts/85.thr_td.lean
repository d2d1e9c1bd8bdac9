set_option maxHeartbeats 4000000 in
set_option maxRecDepth 100000 in
theorem c_X8_nearest {D : va_G} {cB cI cJ cO : ClassId} {l : Launch} {ad mi : Nat} {z0 a1 t0 d0 e0 k0 al so wi : Nat} {bb rr pp qq : Nat} {s0 s1 s2 s3 ca eh es er nd : Nat} {dd : Nat → DX} {HS SS RS : List Nat} {x v : Int32} {ws : va_W} (g0 : ws[0]? = some (z0, .inr (9, [.ref a1, .ref t0, .ref d0, .ref s0, .ref e0, .ref k0, .ref al, .int (nI so), .int (nI wi)]))) (g20 : ws[20]? = some (e0, .inr (3, [.int (nI bb), .int (nI rr), .int (nI pp), .int (nI qq)]))) (hSW : ShW ws cI cJ cO ad s0 s1 s2 s3 ca eh es er nd dd HS SS RS) (hnd : nd ≤ 48) (hRow : RowOK dd HS) (hlt : l.stackTraces = false) : CIT TXT D (TY cB cI cJ cO) l yX8_nearest wsX8_nearestN ({ frames := 9, cells := 49, slots := 2358, locals := 200 }) ad mi [.ref z0, .int x, .int v] ws (fun r ws' => ∃ i : Nat, ∃ t : Nat, ∃ er2 : Nat, r = (if ¬ v < 0 ∧ v < nI (ordL dd t HS).length then nI (dd ((ordL dd t HS).getD v.toNatClampNeg 0)).2.2.1.1 else -1) ∧ (slotOf (HS.map (fun t => (dd t).2.2.1.1)) x = some i) ∧ (HS[i]? = some t) ∧ (ShW ws' cI cJ cO ad s0 s1 s2 s3 ca eh es er2 nd dd HS SS (ordL dd t HS)) ∧ Sm (fun k => k = 19 ∨ 51 ≤ k) ws ws') (fun E ws' => E = NSE ∧ ws = ws' ∧ slotOf (HS.map (fun t => (dd t).2.2.1.1)) x = none) := by
  refine CIT.of (cc := cX8_nearest) (maxL := 4) (ret := (some .int)) (by decide) rfl (Nat.le_of_ble_eq_true rfl) ?_
  intro p e s m below meth c A C hto hK hP hD hA hS hXT ls hl
  have hX := hXT.1
  have hN := hX.1
  obtain ⟨hx, hb, hr, hml, hts, hown, hlocks, hnm⟩ := id C
  have fl_33 := hts (.fieldLink RX8 33 "TwinFinder" "shelf" "LTwinFinder$Shelf;") (by decide +kernel)
  have fl_40 := hts (.fieldLink RX8 40 "TwinFinder" "measure" "LTwinFinder$Measure;") (by decide +kernel)
  have fl_119 := hts (.fieldLink RX8 119 "TwinFinder$Document" "number" "I") (by decide +kernel)
  have hin_X0 : ∀ w ∈ u_ws RX0 TX0 7, w ∈ wsX8_nearestN := by decide +kernel
  have hin_X8 : ∀ w ∈ u_ws RX8 TX8 9, w ∈ wsX8_nearestN := by decide +kernel
  have hl : lv_has ls 4 [(0, .ref z0), (1, .int x), (2, .int v)] := hl
  have sm : Sm (fun k => k = 19 ∨ 51 ≤ k) ws ws := Sm.rf
  have hc0 : (0 : Nat) ≤ 49 := by decide
  have hs0 : (0 : Nat) ≤ 2358 := by decide
  obtain ⟨-, hLh, hLs, hLr, hDW, hEd, hNd, hAll, hndl, hRS, h51⟩ := id hSW
  have hHS : ∀ t ∈ HS, t < nd := fun t h9 => hAll t (List.mem_append_left _ h9)
  have g16 := hSW.1
  refine lv_aload_n hx hb dX8_nearest_0 rfl (lv_at hl 0 rfl) ?_
  refine va_get (D := D) (ci := 9) (v := .ref s0) (C := RX8) (T := TX8) (N := 9) hx hb hts hin_X8 hown hK hP 0 g0 rfl 3 (by decide) fl_33 (fun _ h9 => h9) rfl dX8_nearest_1 ?_
  refine lv_aload_n hx hb dX8_nearest_4 rfl (lv_at hl 0 rfl) ?_
  refine lv_iload_n hx hb dX8_nearest_5 rfl (lv_at hl 1 rfl) ?_
  refine CQT.go (vx_runV (As := [.int x]) (rest := [.ref s0]) ⟨hx, hb, hml, hown, hts⟩ (c_X8_documentThere  g0 hSW hnd hlt _) (cwV 1 hts gX8_nearestN_X8_documentThereN rfl rfl rfl (by decide +kernel) ⟨Nat.le_of_ble_eq_true rfl, Nat.le_of_ble_eq_true rfl⟩) ⟨pwt_blind, va_recv hK hP (ci := 9) (q0 := 0) rfl g0, fun U hU hW => pwt_pre hXT hA hS hK hP hD hU hW⟩ rfl rfl hl.1 rfl (lv_room (Nat.le_of_ble_eq_true rfl)) dX8_nearest_6 ⟨Nat.le_of_ble_eq_true rfl, Nat.le_of_ble_eq_true rfl⟩) hD hS hA (fun E9 ce9 q9 ws9 H9 locs9 hp9 hP9 hD9 hS9 hc9 hv9 hf9 => vx_out (fun x hx => (hto x hx).elim) hlocks hc9 hv9 hf9 (fun t9 ht9 hal9 => xct_here hK hP9 hD9 hS9 (⟨hp9.1, hp9.2.1, hp9.2.2⟩) t9 hal9 (Nat.le_of_eq (by rw [ht9])) (fun q _ => by rw [ht9])) hS9.2.2 (Nat.le_of_ble_eq_true rfl) (Nat.le_of_ble_eq_true rfl)) (fun r_1 ws_2 H locs hp hP hD hS => ?_)
  obtain ⟨i0, tX, rfl, hsl, htX, rfl⟩ := hp
  refine W.widen (k := 1) (n := 6) (Nat.le_of_ble_eq_true rfl) (Nat.le_of_ble_eq_true rfl) ?_
  have htlX : tX < nd := hHS tX (List.mem_of_getElem? htX)
  refine lv_aload_n hx hb dX8_nearest_9 rfl (lv_at hl 0 rfl) ?_
  refine va_get (D := D) (ci := 9) (v := .ref e0) (C := RX8) (T := TX8) (N := 9) hx hb hts hin_X8 hown hK hP 0 g0 rfl 4 (by decide) fl_40 (fun _ h9 => h9) rfl dX8_nearest_10 ?_
  refine CQ.go (va_runV (As := [.ref ((dd tX).1.2), .ref e0]) (rest := []) ⟨hx, hb, hml, hown, hts⟩ (c_X5_othersByNearness  g20 hSW hnd hRow (List.mem_of_getElem? htX) rfl _) (cwV 2 hts gX8_nearestN_X5_othersByNearness rfl rfl rfl (by decide +kernel) ⟨Nat.le_of_ble_eq_true rfl, Nat.le_of_ble_eq_true rfl⟩) ⟨pwx_blind, va_recv hK hP (ci := 6) (q0 := 16) rfl g16, fun U hU hW => pwx_pre hX hA hS hK hP hD hU hW⟩ rfl rfl hl.1 rfl (lv_room (Nat.le_of_ble_eq_true rfl)) dX8_nearest_13 ⟨Nat.le_of_ble_eq_true rfl, Nat.le_of_ble_eq_true rfl⟩) hD hS hA (fun r_3 ws_4 H locs hp hP hD hS => ?_)
  obtain ⟨er2, rfl, hSW, smN⟩ := hp
  have g0 := smN.get g0 (by simp)
  have g20 := smN.get g20 (by simp)
  have g16 := smN.get g16 (by simp)
  have sm := sm.call smN (fun k hk => by (try simp only at hk ⊢); omega)
  refine W.widen (k := 49) (n := 2358) (Nat.le_of_ble_eq_true rfl) (Nat.le_of_ble_eq_true rfl) ?_
  refine lv_astore_n (lv' := [(3, .ref s3), (0, .ref z0), (1, .int x), (2, .int v)]) hx hb dX8_nearest_16 rfl hl (by decide) rfl (fun ls hl => ?_)
  obtain ⟨-, -, -, hLr2, hDW2, -, -, -, -, -, -⟩ := id hSW
  have hol : (ordL dd tX HS).length ≤ 48 := by have h9 := ord_len (dd := dd) (x := tX) (L := HS) (R := []); have h8 : (ordL dd tX HS).length ≤ 0 + HS.length := h9; omega
  refine lv_iload_n hx hb dX8_nearest_17 rfl (lv_at hl 3 rfl) ?_
  refine lv_if_lt (tgt := 43) hx hb dX8_nearest_18 (by decide) (fun c_18 => ?_) (fun c_18 => ?_)
  · refine lv_iconst (v := -1) hx hb dX8_nearest_43 (by decide) ?_
    exact CIT.ret (v := (-1)) C hK hP hD hS rfl (⟨i0, tX, er2, (by rw [if_neg]; intro h; first | exact h.1 c_18 | exact c_26 h.2 | exact absurd h.2 (Int32.not_lt.mpr c_26)), hsl, htX, hSW, sm⟩) (by decide) (by decide) dX8_nearest_44
  · refine lv_iload_n hx hb dX8_nearest_21 rfl (lv_at hl 3 rfl) ?_
    refine lv_aload_n hx hb dX8_nearest_22 rfl (lv_at hl 0 rfl) ?_
    refine CI.go (va_runV (As := []) (rest := [.int v]) ⟨hx, hb, hml, hown, hts⟩ (c_L_size   hLr2 _) (cwV 0 hts gX8_nearestN_Jx4a65c_size_8abf5 rfl rfl rfl (by decide +kernel) ⟨Nat.le_of_ble_eq_true rfl, Nat.le_of_ble_eq_true rfl⟩) ⟨pw_blind, LW.recv hK hP hLr2, fun U hU hW => pw_pre hK hP hD hU hW⟩ rfl rfl hl.1 rfl (lv_room (Nat.le_of_ble_eq_true rfl)) dX8_nearest_23 ⟨Nat.le_of_ble_eq_true rfl, Nat.le_of_ble_eq_true rfl⟩) hD hS hA (fun r_5 ws_6 H locs hp hP hD hS => ?_)
    obtain ⟨rfl, rfl⟩ := hp
    rw [List.length_map]
    refine lv_icmp_ge (tgt := 43) hx hb dX8_nearest_26 (by decide) (fun c_26 => ?_) (fun c_26 => ?_)
    · refine lv_iconst (v := -1) hx hb dX8_nearest_43 (by decide) ?_
      exact CIT.ret (v := (-1)) C hK hP hD hS rfl (⟨i0, tX, er2, (by rw [if_neg]; intro h; first | exact h.1 c_18 | exact c_26 h.2 | exact absurd h.2 (Int32.not_lt.mpr c_26)), hsl, htX, hSW, sm⟩) (by decide) (by decide) dX8_nearest_44
    · obtain ⟨v1, hv1, rfl⟩ := nI_of c_18
      have hv1n : v1 < (ordL dd tX HS).length := by first | exact Nat.lt_of_not_le (fun q => c_26 ((nI_leI (by omega) hv1).mpr q)) | exact (nI_ltI hv1 (by omega)).mp c_26
      obtain ⟨tQ, htQ⟩ : ∃ t, (ordL dd tX HS)[v1]? = some t := ⟨_, List.getElem?_eq_getElem hv1n⟩
      have htlQ : tQ < nd := hHS tQ (ord_sub (List.mem_of_getElem? htQ))
      obtain ⟨⟨⟨pQ, aQ⟩, ⟨x1Q, x2Q, x3Q, x4Q⟩, ⟨nuQ, zQ⟩, fsQ, fnQ, flQ, fhQ⟩, hdxQ⟩ : ∃ z : DX, z = dd tQ := ⟨_, rfl⟩
      have hD5Q := (hDW2.1 tQ htlQ).1
      have hP51Q : 51 ≤ pQ := by have h9 := (hDW2.1 tQ htlQ).2; rw [← hdxQ] at h9; exact h9
      rw [← hdxQ] at hD5Q
      have gpQ : ws_4[pQ]? = some (aQ, .inr (1, [.int (nI tQ), .ref x1Q, .ref x2Q, .ref x3Q, .ref x4Q, .int (nI nuQ), .int (nI zQ)])) := hD5Q.1
      have gpQ_1 : ws_4[pQ + 1]? = some (x1Q, .inl (cJ, 94, .inr (.inl fsQ))) := hD5Q.2.1
      have gpQ_2 : ws_4[pQ + 2]? = some (x2Q, .inl (cI, 800, .inl (fun jj => nI (fnQ jj)))) := hD5Q.2.2.1
      have gpQ_3 : ws_4[pQ + 3]? = some (x3Q, .inl (cI, 64, .inl (fun jj => nI (flQ jj)))) := hD5Q.2.2.2.1
      have gpQ_4 : ws_4[pQ + 4]? = some (x4Q, .inl (cI, 48, .inl (fun jj => nI (fhQ jj)))) := hD5Q.2.2.2.2
      refine lv_aload_n hx hb dX8_nearest_29 rfl (lv_at hl 0 rfl) ?_
      refine lv_iload_n hx hb dX8_nearest_30 rfl (lv_at hl 3 rfl) ?_
      refine CQ.go (va_runV (As := [.int (nI v1)]) (rest := []) ⟨hx, hb, hml, hown, hts⟩ (c_L_get (v := aQ)  hLr2 (map_at htQ (by rw [← hdxQ])) _) (cwV 1 hts gX8_nearestN_Jx4a65c_get_915e3 rfl rfl rfl (by decide +kernel) ⟨Nat.le_of_ble_eq_true rfl, Nat.le_of_ble_eq_true rfl⟩) ⟨pw_blind, LW.recv hK hP hLr2, fun U hU hW => pw_pre hK hP hD hU hW⟩ rfl rfl hl.1 rfl (lv_room (Nat.le_of_ble_eq_true rfl)) dX8_nearest_31 ⟨Nat.le_of_ble_eq_true rfl, Nat.le_of_ble_eq_true rfl⟩) hD hS hA (fun r_7 ws_8 H locs hp hP hD hS => ?_)
      obtain ⟨rfl, rfl⟩ := hp
      refine va_castS hx hb hown (hts (.classLink RX8 99 RX0) (by decide +kernel)) (hK.1 1 _ rfl).2 (va_recv hK hP (ci := 1) (q0 := pQ) rfl gpQ) dX8_nearest_34 ?_
      refine va_get (D := D) (ci := 1) (v := .int (nI nuQ)) (C := RX0) (T := TX0) (N := 7) hx hb hts hin_X0 hown hK hP pQ gpQ rfl 5 (by decide) fl_119 (fun _ h9 => h9) rfl dX8_nearest_37 ?_
      refine lv_goto (tgt := 44) hx hb dX8_nearest_40 (by decide) ?_
      exact CIT.ret (v := (nI nuQ)) C hK hP hD hS rfl (⟨i0, tX, er2, (by rw [if_pos ⟨c_18, (nI_ltI hv1 (by omega)).mpr hv1n⟩, nI_clamp hv1, getD_at htQ, ← hdxQ]), hsl, htX, hSW, sm⟩) (by decide) (by decide) dX8_nearest_44
