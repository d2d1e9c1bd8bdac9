set_option maxHeartbeats 4000000 in
set_option maxRecDepth 100000 in
theorem c_X8_documentThere {D : va_G} {cB cI cJ cO : ClassId} {l : Launch} {ad mi : Nat} {z0 a1 t0 d0 e0 k0 al so wi : Nat} {s0 s1 s2 s3 ca eh es er nd : Nat} {dd : Nat → DX} {HS SS RS : List Nat} {x : Int32} {ws : va_W} (g0 : ws[0]? = some (z0, .inr (9, [.ref a1, .ref t0, .ref d0, .ref s0, .ref e0, .ref k0, .ref al, .int (nI so), .int (nI wi)]))) (hSW : ShW ws cI cJ cO ad s0 s1 s2 s3 ca eh es er nd dd HS SS RS) (hnd : nd ≤ 48) (hlt : l.stackTraces = false) : CQT TXT D (TY cB cI cJ cO) l yX8_documentThere wsX8_documentThereN ({ frames := 7, cells := 1, slots := 6, locals := 110 }) ad mi [.ref z0, .int x] ws (fun r ws' => ∃ i : Nat, ∃ t : Nat, r = some ((dd t).1.2) ∧ (slotOf (HS.map (fun t => (dd t).2.2.1.1)) x = some i) ∧ (HS[i]? = some t) ∧ ws = ws') (fun E ws' => E = NSE ∧ ws = ws' ∧ slotOf (HS.map (fun t => (dd t).2.2.1.1)) x = none) := by
  refine CQT.of (cc := cX8_documentThere) (maxL := 3) (ret := (some (.object "TwinFinder$Document"))) (by decide) rfl (Nat.le_of_ble_eq_true rfl) ?_
  intro p e s m below meth c A C hto hK hP hD hA hS hXT ls hl
  have hX := hXT.1
  have hN := hX.1
  obtain ⟨hx, hb, hr, hml, hts, hown, hlocks, hnm⟩ := id C
  have fl_33 := hts (.fieldLink RX8 33 "TwinFinder" "shelf" "LTwinFinder$Shelf;") (by decide +kernel)
  have fl_168 := hts (.fieldLink RX8 168 "TwinFinder$Shelf" "here" "Ljava/util/ArrayList;") (by decide +kernel)
  have hin_X5 : ∀ w ∈ u_ws RX5 TX5 4, w ∈ wsX8_documentThereN := by decide +kernel
  have hin_X8 : ∀ w ∈ u_ws RX8 TX8 9, w ∈ wsX8_documentThereN := by decide +kernel
  have hl : lv_has ls 3 [(0, .ref z0), (1, .int x)] := hl
  have sm : Sm (fun _ => False) ws ws := Sm.rf
  have hc0 : (0 : Nat) ≤ 1 := by decide
  have hs0 : (0 : Nat) ≤ 6 := by decide
  have g16 := hSW.1
  obtain ⟨-, hLh, hLs, hLr, hDW, hEd, hNd, hAll, hndl, hRS, h51⟩ := id hSW
  have hHS : ∀ t ∈ HS, t < nd := fun t h9 => hAll t (List.mem_append_left _ h9)
  refine lv_aload_n hx hb dX8_documentThere_0 rfl (lv_at hl 0 rfl) ?_
  refine va_get (D := D) (ci := 9) (v := .ref s0) (C := RX8) (T := TX8) (N := 9) hx hb hts hin_X8 hown hK hP 0 g0 rfl 3 (by decide) fl_33 (fun _ h9 => h9) rfl dX8_documentThere_1 ?_
  refine lv_iload_n hx hb dX8_documentThere_4 rfl (lv_at hl 1 rfl) ?_
  refine CI.go (va_runV (As := [.int x]) (rest := []) ⟨hx, hb, hml, hown, hts⟩ (c_X5_placeOf  g16 hLh hDW hHS (by omega) _) (cwV 1 hts gX8_documentThereN_X5_placeOf rfl rfl rfl (by decide +kernel) ⟨Nat.le_of_ble_eq_true rfl, Nat.le_of_ble_eq_true rfl⟩) ⟨pw_blind, va_recv hK hP (ci := 6) (q0 := 16) rfl g16, fun U hU hW => pw_pre hK hP hD hU hW⟩ rfl rfl hl.1 rfl (lv_room (Nat.le_of_ble_eq_true rfl)) dX8_documentThere_5 ⟨Nat.le_of_ble_eq_true rfl, Nat.le_of_ble_eq_true rfl⟩) hD hS hA (fun r_1 ws_2 H locs hp hP hD hS => ?_)
  obtain ⟨rfl, rfl⟩ := hp
  rcases hsl : slotOf (HS.map (fun t => (dd t).2.2.1.1)) x with _ | k
  · try simp only [optI]
    refine lv_istore_n (lv' := [(2, .int (-1)), (0, .ref z0), (1, .int x)]) hx hb dX8_documentThere_8 rfl hl (by decide) rfl (fun ls hl => ?_)
    refine lv_iload_n hx hb dX8_documentThere_9 rfl (lv_at hl 0 rfl) ?_
    refine lv_iconst (v := -1) hx hb dX8_documentThere_10 (by decide) ?_
    refine lv_icmp_ne (tgt := 25) hx hb dX8_documentThere_11 (by decide) (fun c_11 => absurd (by decide) c_11) (fun c_11 => ?_)
    exact vt_thrXW (text := "the document is not there") C hto hlt hXT hK hP hD hS hl.1 (by decide +kernel) (by decide +kernel) (by decide +kernel) (by decide +kernel) (fun w hw => List.mem_cons_of_mem _ (List.mem_append_right _ hw)) vtNX_m vtNX_g dX8_documentThere_14 dX8_documentThere_17 dX8_documentThere_18 dX8_documentThere_21 dX8_documentThere_24 ⟨rfl, rfl, (by first | exact hsl | trivial | rfl)⟩ (Nat.le_of_ble_eq_true rfl) (Nat.le_of_ble_eq_true rfl) (Nat.le_of_ble_eq_true rfl) (Nat.le_of_ble_eq_true rfl) (Nat.le_of_ble_eq_true rfl) (Nat.le_of_ble_eq_true rfl)
  · try simp only [optI]
    have hk9 : k < HS.length := by have h9 := (slotOf_lt hsl).1; rw [List.length_map] at h9; exact h9
    refine lv_istore_n (lv' := [(2, .int (nI k)), (0, .ref z0), (1, .int x)]) hx hb dX8_documentThere_8 rfl hl (by decide) rfl (fun ls hl => ?_)
    refine lv_iload_n hx hb dX8_documentThere_9 rfl (lv_at hl 0 rfl) ?_
    refine lv_iconst (v := -1) hx hb dX8_documentThere_10 (by decide) ?_
    refine lv_icmp_ne (tgt := 25) hx hb dX8_documentThere_11 (by decide) (fun c_11 => ?_) (fun c_11 => ?_)
    · have hk : k < HS.length := by have h9 := (slotOf_lt hsl).1; rw [List.length_map] at h9; exact h9
      obtain ⟨tQ, htQ⟩ : ∃ t, HS[k]? = some t := ⟨_, List.getElem?_eq_getElem hk⟩
      have htlQ : tQ < nd := hHS tQ (List.mem_of_getElem? htQ)
      have hnl := hndl
      obtain ⟨⟨⟨pQ, aQ⟩, ⟨x1Q, x2Q, x3Q, x4Q⟩, ⟨nuQ, zQ⟩, fsQ, fnQ, flQ, fhQ⟩, hdxQ⟩ : ∃ z : DX, z = dd tQ := ⟨_, rfl⟩
      have hD5Q := (hDW.1 tQ htlQ).1
      have hP51Q : 51 ≤ pQ := by have h9 := (hDW.1 tQ htlQ).2; rw [← hdxQ] at h9; exact h9
      rw [← hdxQ] at hD5Q
      have gpQ : ws[pQ]? = some (aQ, .inr (1, [.int (nI tQ), .ref x1Q, .ref x2Q, .ref x3Q, .ref x4Q, .int (nI nuQ), .int (nI zQ)])) := hD5Q.1
      have gpQ_1 : ws[pQ + 1]? = some (x1Q, .inl (cJ, 94, .inr (.inl fsQ))) := hD5Q.2.1
      have gpQ_2 : ws[pQ + 2]? = some (x2Q, .inl (cI, 800, .inl (fun jj => nI (fnQ jj)))) := hD5Q.2.2.1
      have gpQ_3 : ws[pQ + 3]? = some (x3Q, .inl (cI, 64, .inl (fun jj => nI (flQ jj)))) := hD5Q.2.2.2.1
      have gpQ_4 : ws[pQ + 4]? = some (x4Q, .inl (cI, 48, .inl (fun jj => nI (fhQ jj)))) := hD5Q.2.2.2.2
      refine lv_aload_n hx hb dX8_documentThere_25 rfl (lv_at hl 1 rfl) ?_
      refine va_get (D := D) (ci := 9) (v := .ref s0) (C := RX8) (T := TX8) (N := 9) hx hb hts hin_X8 hown hK hP 0 g0 rfl 3 (by decide) fl_33 (fun _ h9 => h9) rfl dX8_documentThere_26 ?_
      refine va_get (D := D) (ci := 6) (v := .ref s1) (C := RX5) (T := TX5) (N := 4) hx hb hts hin_X5 hown hK hP 16 g16 rfl 0 (by decide) fl_168 (fun _ h9 => h9) rfl dX8_documentThere_29 ?_
      refine lv_iload_n hx hb dX8_documentThere_32 rfl (lv_at hl 0 rfl) ?_
      refine CQ.go (va_runV (As := [.int (nI k)]) (rest := []) ⟨hx, hb, hml, hown, hts⟩ (c_L_get (v := aQ)  hLh (map_at htQ (by rw [← hdxQ])) _) (cwV 1 hts gX8_documentThereN_Jx4a65c_get_915e3 rfl rfl rfl (by decide +kernel) ⟨Nat.le_of_ble_eq_true rfl, Nat.le_of_ble_eq_true rfl⟩) ⟨pw_blind, LW.recv hK hP hLh, fun U hU hW => pw_pre hK hP hD hU hW⟩ rfl rfl hl.1 rfl (lv_room (Nat.le_of_ble_eq_true rfl)) dX8_documentThere_33 ⟨Nat.le_of_ble_eq_true rfl, Nat.le_of_ble_eq_true rfl⟩) hD hS hA (fun r_3 ws_4 H locs hp hP hD hS => ?_)
      obtain ⟨rfl, rfl⟩ := hp
      refine va_castS hx hb hown (hts (.classLink RX8 99 RX0) (by decide +kernel)) (hK.1 1 _ rfl).2 (va_recv hK hP (ci := 1) (q0 := pQ) rfl gpQ) dX8_documentThere_36 ?_
      exact CQT.ret (v := some aQ) C hK hP hD hS (Or.inl ⟨_, rfl⟩) (⟨k, tQ, (by rw [← hdxQ]), (by first | exact hsl | rfl), htQ, rfl⟩) hc0 hs0 dX8_documentThere_39
    · exact absurd c_11 (nI_nm1 (by omega))
