set_option maxHeartbeats 4000000 in
set_option maxRecDepth 100000 in
theorem c_X8_shingle {D : va_G} {cB cI cJ cO : ClassId} {l : Launch} {ad mi : Nat} {z0 a1 t0 d0 e0 k0 al so wi : Nat} {s0 s1 s2 s3 ca eh es er nd : Nat} {dd : Nat → DX} {HS SS RS : List Nat} {x v : Int32} {ws : va_W} (g0 : ws[0]? = some (z0, .inr (9, [.ref a1, .ref t0, .ref d0, .ref s0, .ref e0, .ref k0, .ref al, .int (nI so), .int (nI wi)]))) (hSW : ShW ws cI cJ cO ad s0 s1 s2 s3 ca eh es er nd dd HS SS RS) (hnd : nd ≤ 48) (hRow : RowOK dd HS) (hlt : l.stackTraces = false) : CIT TXT D (TY cB cI cJ cO) l yX8_shingle wsX8_shingleN ({ frames := 8, cells := 1, slots := 6, locals := 150 }) ad mi [.ref z0, .int x, .int v] ws (fun r ws' => ∃ i : Nat, ∃ t : Nat, r = (if ¬ v < 0 ∧ v < nI (dd t).2.2.1.2 then nI ((dd t).2.2.2.2.1 v.toNatClampNeg) else -1) ∧ (slotOf (HS.map (fun t => (dd t).2.2.1.1)) x = some i) ∧ (HS[i]? = some t) ∧ ws = ws') (fun E ws' => E = NSE ∧ ws = ws' ∧ slotOf (HS.map (fun t => (dd t).2.2.1.1)) x = none) := by
  refine CIT.of (cc := cX8_shingle) (maxL := 4) (ret := (some .int)) (by decide) rfl (Nat.le_of_ble_eq_true rfl) ?_
  intro p e s m below meth c A C hto hK hP hD hA hS hXT ls hl
  have hX := hXT.1
  have hN := hX.1
  obtain ⟨hx, hb, hr, hml, hts, hown, hlocks, hnm⟩ := id C
  have fl_178 := hts (.fieldLink RX8 178 "TwinFinder$Document" "size" "I") (by decide +kernel)
  have fl_198 := hts (.fieldLink RX8 198 "TwinFinder$Document" "numbers" "[I") (by decide +kernel)
  have hin_X0 : ∀ w ∈ u_ws RX0 TX0 7, w ∈ wsX8_shingleN := by decide +kernel
  have hl : lv_has ls 4 [(0, .ref z0), (1, .int x), (2, .int v)] := hl
  have sm : Sm (fun _ => False) ws ws := Sm.rf
  have hc0 : (0 : Nat) ≤ 1 := by decide
  have hs0 : (0 : Nat) ≤ 6 := by decide
  obtain ⟨-, hLh, hLs, hLr, hDW, hEd, hNd, hAll, hndl, hRS, h51⟩ := id hSW
  have hHS : ∀ t ∈ HS, t < nd := fun t h9 => hAll t (List.mem_append_left _ h9)
  refine lv_aload_n hx hb dX8_shingle_0 rfl (lv_at hl 0 rfl) ?_
  refine lv_iload_n hx hb dX8_shingle_1 rfl (lv_at hl 1 rfl) ?_
  refine CQT.go (vx_runV (As := [.int x]) (rest := []) ⟨hx, hb, hml, hown, hts⟩ (c_X8_documentThere  g0 hSW hnd hlt _) (cwV 1 hts gX8_shingleN_X8_documentThereN rfl rfl rfl (by decide +kernel) ⟨Nat.le_of_ble_eq_true rfl, Nat.le_of_ble_eq_true rfl⟩) ⟨pwt_blind, va_recv hK hP (ci := 9) (q0 := 0) rfl g0, fun U hU hW => pwt_pre hXT hA hS hK hP hD hU hW⟩ rfl rfl hl.1 rfl (lv_room (Nat.le_of_ble_eq_true rfl)) dX8_shingle_2 ⟨Nat.le_of_ble_eq_true rfl, Nat.le_of_ble_eq_true rfl⟩) hD hS hA (fun E9 ce9 q9 ws9 H9 locs9 hp9 hP9 hD9 hS9 hc9 hv9 hf9 => vx_out (fun x hx => (hto x hx).elim) hlocks hc9 hv9 hf9 (fun t9 ht9 hal9 => xct_here hK hP9 hD9 hS9 (⟨hp9.1, hp9.2.1, hp9.2.2⟩) t9 hal9 (Nat.le_of_eq (by rw [ht9])) (fun q _ => by rw [ht9])) hS9.2.2 (Nat.le_of_ble_eq_true rfl) (Nat.le_of_ble_eq_true rfl)) (fun r_1 ws_2 H locs hp hP hD hS => ?_)
  obtain ⟨i0, tX, rfl, hsl, htX, rfl⟩ := hp
  refine W.widen (k := 1) (n := 6) (Nat.le_of_ble_eq_true rfl) (Nat.le_of_ble_eq_true rfl) ?_
  have htlX : tX < nd := hHS tX (List.mem_of_getElem? htX)
  refine lv_astore_n (lv' := [(3, .ref ((dd tX).1.2)), (0, .ref z0), (1, .int x), (2, .int v)]) hx hb dX8_shingle_5 rfl hl (by decide) rfl (fun ls hl => ?_)
  obtain ⟨⟨⟨pX, aX⟩, ⟨x1X, x2X, x3X, x4X⟩, ⟨nuX, zX⟩, fsX, fnX, flX, fhX⟩, hdxX⟩ : ∃ z : DX, z = dd tX := ⟨_, rfl⟩
  have hD5X := (hDW.1 tX htlX).1
  have hP51X : 51 ≤ pX := by have h9 := (hDW.1 tX htlX).2; rw [← hdxX] at h9; exact h9
  rw [← hdxX] at hD5X
  have gpX : ws[pX]? = some (aX, .inr (1, [.int (nI tX), .ref x1X, .ref x2X, .ref x3X, .ref x4X, .int (nI nuX), .int (nI zX)])) := hD5X.1
  have gpX_1 : ws[pX + 1]? = some (x1X, .inl (cJ, 94, .inr (.inl fsX))) := hD5X.2.1
  have gpX_2 : ws[pX + 2]? = some (x2X, .inl (cI, 800, .inl (fun jj => nI (fnX jj)))) := hD5X.2.2.1
  have gpX_3 : ws[pX + 3]? = some (x3X, .inl (cI, 64, .inl (fun jj => nI (flX jj)))) := hD5X.2.2.2.1
  have gpX_4 : ws[pX + 4]? = some (x4X, .inl (cI, 48, .inl (fun jj => nI (fhX jj)))) := hD5X.2.2.2.2
  have haX : (dd tX).1.2 = aX := by rw [← hdxX]
  have hl : lv_has ls 4 [(3, .ref aX), (0, .ref z0), (1, .int x), (2, .int v)] := by rw [← show (dd tX).1.2 = aX from haX]; exact hl
  have hzX8 : zX ≤ 800 := by have h9 := (hRow tX (List.mem_of_getElem? htX)).1; rw [← hdxX] at h9; exact h9
  refine lv_iload_n hx hb dX8_shingle_6 rfl (lv_at hl 3 rfl) ?_
  refine lv_if_lt (tgt := 27) hx hb dX8_shingle_7 (by decide) (fun c_7 => ?_) (fun c_7 => ?_)
  · refine lv_iconst (v := -1) hx hb dX8_shingle_27 (by decide) ?_
    exact CIT.ret (v := (-1)) C hK hP hD hS rfl (⟨i0, tX, (by rw [← hdxX]; show _ = if ¬ v < 0 ∧ v < nI zX then _ else -1; rw [if_neg]; intro h; first | exact h.1 c_7 | exact c_15 h.2 | exact absurd h.2 (Int32.not_lt.mpr c_15)), hsl, htX, rfl⟩) (by decide) (by decide) dX8_shingle_28
  · refine lv_iload_n hx hb dX8_shingle_10 rfl (lv_at hl 3 rfl) ?_
    refine lv_aload_n hx hb dX8_shingle_11 rfl (lv_at hl 0 rfl) ?_
    refine va_get (D := D) (ci := 1) (v := .int (nI zX)) (C := RX0) (T := TX0) (N := 7) hx hb hts hin_X0 hown hK hP pX gpX rfl 6 (by decide) fl_178 (fun _ h9 => h9) rfl dX8_shingle_12 ?_
    refine lv_icmp_ge (tgt := 27) hx hb dX8_shingle_15 (by decide) (fun c_15 => ?_) (fun c_15 => ?_)
    · refine lv_iconst (v := -1) hx hb dX8_shingle_27 (by decide) ?_
      exact CIT.ret (v := (-1)) C hK hP hD hS rfl (⟨i0, tX, (by rw [← hdxX]; show _ = if ¬ v < 0 ∧ v < nI zX then _ else -1; rw [if_neg]; intro h; first | exact h.1 c_7 | exact c_15 h.2 | exact absurd h.2 (Int32.not_lt.mpr c_15)), hsl, htX, rfl⟩) (by decide) (by decide) dX8_shingle_28
    · obtain ⟨v1, hv1, rfl⟩ := nI_of c_7
      have hv1n : v1 < zX := by first | exact Nat.lt_of_not_le (fun q => c_15 ((nI_leI (by omega) hv1).mpr q)) | exact (nI_ltI hv1 (by omega)).mp c_15
      refine lv_aload_n hx hb dX8_shingle_18 rfl (lv_at hl 0 rfl) ?_
      refine va_get (D := D) (ci := 1) (v := .ref x2X) (C := RX0) (T := TX0) (N := 7) hx hb hts hin_X0 hown hK hP pX gpX rfl 2 (by decide) fl_198 (fun _ h9 => h9) rfl dX8_shingle_19 ?_
      refine lv_iload_n hx hb dX8_shingle_22 rfl (lv_at hl 3 rfl) ?_
      refine nx_iald hx hb hK hP (pX + 2) 1 gpX_2 rfl (k := v1) (by omega) (by decide) dX8_shingle_23 ?_
      refine lv_goto (tgt := 28) hx hb dX8_shingle_24 (by decide) ?_
      exact CIT.ret (v := (nI (fnX v1))) C hK hP hD hS rfl (⟨i0, tX, (by rw [← hdxX]; show _ = if ¬ nI v1 < 0 ∧ nI v1 < nI zX then nI (fnX (nI v1).toNatClampNeg) else -1; rw [if_pos ⟨c_7, (nI_ltI hv1 (by omega)).mpr hv1n⟩, nI_clamp hv1]), hsl, htX, rfl⟩) (by decide) (by decide) dX8_shingle_28
