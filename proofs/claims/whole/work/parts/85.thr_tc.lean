set_option maxHeartbeats 4000000 in
set_option maxRecDepth 100000 in
theorem c_X8_signature {D : va_G} {cB cI cJ cO : ClassId} {l : Launch} {ad mi : Nat} {z0 a1 t0 d0 e0 k0 al so wi : Nat} {s0 s1 s2 s3 ca eh es er nd : Nat} {dd : Nat → DX} {HS SS RS : List Nat} {x v : Int32} {ws : va_W} (g0 : ws[0]? = some (z0, .inr (9, [.ref a1, .ref t0, .ref d0, .ref s0, .ref e0, .ref k0, .ref al, .int (nI so), .int (nI wi)]))) (hSW : ShW ws cI cJ cO ad s0 s1 s2 s3 ca eh es er nd dd HS SS RS) (hnd : nd ≤ 48) (hlt : l.stackTraces = false) : CIT TXT D (TY cB cI cJ cO) l yX8_signature wsX8_signatureN ({ frames := 8, cells := 2, slots := 12, locals := 150 }) ad mi [.ref z0, .int x, .int v] ws (fun r ws' => ∃ i : Nat, ∃ t : Nat, r = nI ((dd t).2.2.2.2.2.1 v.toNatClampNeg) ∧ (slotOf (HS.map (fun t => (dd t).2.2.1.1)) x = some i) ∧ (HS[i]? = some t) ∧ (¬ v < 0 ∧ v < nI 64) ∧ ws = ws') (fun E ws' => E = NSE ∧ ws = ws' ∧ (slotOf (HS.map (fun t => (dd t).2.2.1.1)) x = none ∨ ¬ (¬ v < 0 ∧ v < nI 64))) := by
  refine CIT.of (cc := cX8_signature) (maxL := 4) (ret := (some .int)) (by decide) rfl (Nat.le_of_ble_eq_true rfl) ?_
  intro p e s m below meth c A C hto hK hP hD hA hS hXT ls hl
  have hX := hXT.1
  have hN := hX.1
  obtain ⟨hx, hb, hr, hml, hts, hown, hlocks, hnm⟩ := id C
  have fl_104 := hts (.fieldLink RX8 104 "TwinFinder$Document" "least" "[I") (by decide +kernel)
  have hin_X0 : ∀ w ∈ u_ws RX0 TX0 7, w ∈ wsX8_signatureN := by decide +kernel
  have hl : lv_has ls 4 [(0, .ref z0), (1, .int x), (2, .int v)] := hl
  have sm : Sm (fun _ => False) ws ws := Sm.rf
  have hc0 : (0 : Nat) ≤ 2 := by decide
  have hs0 : (0 : Nat) ≤ 12 := by decide
  obtain ⟨-, hLh, hLs, hLr, hDW, hEd, hNd, hAll, hndl, hRS, h51⟩ := id hSW
  have hHS : ∀ t ∈ HS, t < nd := fun t h9 => hAll t (List.mem_append_left _ h9)
  refine lv_aload_n hx hb dX8_signature_0 rfl (lv_at hl 0 rfl) ?_
  refine lv_iload_n hx hb dX8_signature_1 rfl (lv_at hl 1 rfl) ?_
  refine CQT.go (vx_runV (As := [.int x]) (rest := []) ⟨hx, hb, hml, hown, hts⟩ (c_X8_documentThere  g0 hSW hnd hlt _) (cwV 1 hts gX8_signatureN_X8_documentThereN rfl rfl rfl (by decide +kernel) ⟨Nat.le_of_ble_eq_true rfl, Nat.le_of_ble_eq_true rfl⟩) ⟨pwt_blind, va_recv hK hP (ci := 9) (q0 := 0) rfl g0, fun U hU hW => pwt_pre hXT hA hS hK hP hD hU hW⟩ rfl rfl hl.1 rfl (lv_room (Nat.le_of_ble_eq_true rfl)) dX8_signature_2 ⟨Nat.le_of_ble_eq_true rfl, Nat.le_of_ble_eq_true rfl⟩) hD hS hA (fun E9 ce9 q9 ws9 H9 locs9 hp9 hP9 hD9 hS9 hc9 hv9 hf9 => vx_out (fun x hx => (hto x hx).elim) hlocks hc9 hv9 hf9 (fun t9 ht9 hal9 => xct_here hK hP9 hD9 hS9 (⟨hp9.1, hp9.2.1, Or.inl hp9.2.2⟩) t9 hal9 (Nat.le_of_eq (by rw [ht9])) (fun q _ => by rw [ht9])) hS9.2.2 (Nat.le_of_ble_eq_true rfl) (Nat.le_of_ble_eq_true rfl)) (fun r_1 ws_2 H locs hp hP hD hS => ?_)
  obtain ⟨i0, tX, rfl, hsl, htX, rfl⟩ := hp
  refine W.widen (k := 1) (n := 6) (Nat.le_of_ble_eq_true rfl) (Nat.le_of_ble_eq_true rfl) ?_
  have htlX : tX < nd := hHS tX (List.mem_of_getElem? htX)
  refine lv_astore_n (lv' := [(3, .ref ((dd tX).1.2)), (0, .ref z0), (1, .int x), (2, .int v)]) hx hb dX8_signature_5 rfl hl (by decide) rfl (fun ls hl => ?_)
  obtain ⟨⟨⟨pX, aX⟩, ⟨x1X, x2X, x3X, x4X⟩, ⟨nuX, zX⟩, fsX, fnX, flX, fhX⟩, hdxX⟩ : ∃ z : DX, z = dd tX := ⟨_, rfl⟩
  have hD5X := (hDW.1 tX htlX).1
  have hP51X : 51 ≤ pX := by have h9 := (hDW.1 tX htlX).2; rw [← hdxX] at h9; exact h9
  rw [← hdxX] at hD5X
  have gpX : ws[pX]? = some (aX, .inr (1, [.int (nI tX), .ref x1X, .ref x2X, .ref x3X, .ref x4X, .int (nI nuX), .int (nI zX)])) := hD5X.1
  have gpX_1 : ws[pX + 1]? = some (x1X, .inl (cJ, 94, .inr (.inl fsX))) := hD5X.2.1
  have gpX_2 : ws[pX + 2]? = some (x2X, .inl (cI, 800, .inl (fun jj => nI (fnX jj)))) := hD5X.2.2.1
  have gpX_3 : ws[pX + 3]? = some (x3X, .inl (cI, 64, .inl (fun jj => nI (flX jj)))) := hD5X.2.2.2.1
  have gpX_4 : ws[pX + 4]? = some (x4X, .inl (cI, 48, .inl (fun jj => nI (fhX jj)))) := hD5X.2.2.2.2
  have haX : (dd tX).1.2 = aX := by rw [← hdxX]
  have hl : lv_has ls 4 [(3, .ref aX), (0, .ref z0), (1, .int x), (2, .int v)] := by rw [← show (dd tX).1.2 = aX from haX]; exact hl
  refine lv_iload_n hx hb dX8_signature_6 rfl (lv_at hl 3 rfl) ?_
  refine lv_if_lt (tgt := 16) hx hb dX8_signature_7 (by decide) (fun c_7 => ?_) (fun c_7 => ?_)
  · exact vt_thrX (text := "there is no such permutation") C hto hlt hXT hK hP hD hS hl.1 (by decide +kernel) (by decide +kernel) (by decide +kernel) (by decide +kernel) (fun w hw => List.mem_cons_of_mem _ (List.mem_append_right _ hw)) vtNX_m vtNX_g dX8_signature_16 dX8_signature_19 dX8_signature_20 dX8_signature_22 dX8_signature_25 ⟨rfl, rfl, Or.inr (fun h => by first | exact h.1 c_7 | exact c_13 h.2 | exact absurd h.2 (Int32.not_lt.mpr c_13))⟩ (Nat.le_of_ble_eq_true rfl) (Nat.le_of_ble_eq_true rfl) (Nat.le_of_ble_eq_true rfl) (Nat.le_of_ble_eq_true rfl) (Nat.le_of_ble_eq_true rfl) (Nat.le_of_ble_eq_true rfl)
  · refine lv_iload_n hx hb dX8_signature_10 rfl (lv_at hl 3 rfl) ?_
    refine lv_bipush (v := nI 64) hx hb dX8_signature_11 (by decide) ?_
    refine lv_icmp_lt (tgt := 26) hx hb dX8_signature_13 (by decide) (fun c_13 => ?_) (fun c_13 => ?_)
    · have hv0 := c_7
      obtain ⟨v1, hv1, rfl⟩ := nI_of c_7
      have hv1n : v1 < 64 := (nI_ltI hv1 (by decide)).mp c_13
      refine lv_aload_n hx hb dX8_signature_26 rfl (lv_at hl 0 rfl) ?_
      refine va_get (D := D) (ci := 1) (v := .ref x3X) (C := RX0) (T := TX0) (N := 7) hx hb hts hin_X0 hown hK hP pX gpX rfl 3 (by decide) fl_104 (fun _ h9 => h9) rfl dX8_signature_27 ?_
      refine lv_iload_n hx hb dX8_signature_30 rfl (lv_at hl 3 rfl) ?_
      refine nx_iald hx hb hK hP (pX + 3) 1 gpX_3 rfl (k := v1) (by omega) (by decide) dX8_signature_31 ?_
      exact CIT.ret (v := (nI (flX v1))) C hK hP hD hS rfl (⟨i0, tX, (by rw [← hdxX, nI_clamp hv1]), hsl, htX, ⟨c_7, (nI_ltI hv1 (by decide)).mpr hv1n⟩, rfl⟩) (by decide) (by decide) dX8_signature_32
    · exact vt_thrX (text := "there is no such permutation") C hto hlt hXT hK hP hD hS hl.1 (by decide +kernel) (by decide +kernel) (by decide +kernel) (by decide +kernel) (fun w hw => List.mem_cons_of_mem _ (List.mem_append_right _ hw)) vtNX_m vtNX_g dX8_signature_16 dX8_signature_19 dX8_signature_20 dX8_signature_22 dX8_signature_25 ⟨rfl, rfl, Or.inr (fun h => by first | exact h.1 c_7 | exact c_13 h.2 | exact absurd h.2 (Int32.not_lt.mpr c_13))⟩ (Nat.le_of_ble_eq_true rfl) (Nat.le_of_ble_eq_true rfl) (Nat.le_of_ble_eq_true rfl) (Nat.le_of_ble_eq_true rfl) (Nat.le_of_ble_eq_true rfl) (Nat.le_of_ble_eq_true rfl)
