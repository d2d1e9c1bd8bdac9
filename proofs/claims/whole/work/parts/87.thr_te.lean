set_option maxHeartbeats 4000000 in
set_option maxRecDepth 100000 in
theorem c_X8_both {D : va_G} {cB cI cJ cO : ClassId} {l : Launch} {ad mi : Nat} {z0 a1 t0 d0 e0 k0 al so wi : Nat} {bb rr pp qq : Nat} {s0 s1 s2 s3 ca eh es er nd : Nat} {dd : Nat → DX} {HS SS RS : List Nat} {x y v : Int32} {ws : va_W} (g0 : ws[0]? = some (z0, .inr (9, [.ref a1, .ref t0, .ref d0, .ref s0, .ref e0, .ref k0, .ref al, .int (nI so), .int (nI wi)]))) (g20 : ws[20]? = some (e0, .inr (3, [.int (nI bb), .int (nI rr), .int (nI pp), .int (nI qq)]))) (hSW : ShW ws cI cJ cO ad s0 s1 s2 s3 ca eh es er nd dd HS SS RS) (hnd : nd ≤ 48) (hRow : RowOK dd HS) (hbr : bb * rr ≤ 64) (hb64 : bb ≤ 64) (hr64 : rr ≤ 64) (hp4 : pp ≤ 10000) (hq4 : qq ≤ 10000) (hlt : l.stackTraces = false) : CIT TXT D (TY cB cI cJ cO) l yX8_both wsX8_bothN ({ frames := 9, cells := 3, slots := 18, locals := 250 }) ad mi [.ref z0, .int x, .int y, .int v] ws (fun r ws' => ∃ i : Nat, ∃ j : Nat, ∃ t : Nat, ∃ u : Nat, r = bothC dd rr bb pp qq t u v ∧ (slotOf (HS.map (fun t => (dd t).2.2.1.1)) x = some i) ∧ (HS[i]? = some t) ∧ (slotOf (HS.map (fun t => (dd t).2.2.1.1)) y = some j) ∧ (HS[j]? = some u) ∧ (¬ v < 0 ∧ v ≤ nI 4) ∧ ws = ws') (fun E ws' => E = NSE ∧ ws = ws' ∧ (slotOf (HS.map (fun t => (dd t).2.2.1.1)) x = none ∨ slotOf (HS.map (fun t => (dd t).2.2.1.1)) y = none ∨ ¬ (¬ v < 0 ∧ v ≤ nI 4))) := by
  refine CIT.of (cc := cX8_both) (maxL := 6) (ret := (some .int)) (by decide) rfl (Nat.le_of_ble_eq_true rfl) ?_
  intro p e s m below meth c A C hto hK hP hD hA hS hXT ls hl
  have hX := hXT.1
  have hN := hX.1
  obtain ⟨hx, hb, hr, hml, hts, hown, hlocks, hnm⟩ := id C
  have fl_40 := hts (.fieldLink RX8 40 "TwinFinder" "measure" "LTwinFinder$Measure;") (by decide +kernel)
  have hin_X8 : ∀ w ∈ u_ws RX8 TX8 9, w ∈ wsX8_bothN := by decide +kernel
  have hl : lv_has ls 6 [(0, .ref z0), (1, .int x), (2, .int y), (3, .int v)] := hl
  have sm : Sm (fun _ => False) ws ws := Sm.rf
  have hc0 : (0 : Nat) ≤ 3 := by decide
  have hs0 : (0 : Nat) ≤ 18 := by decide
  obtain ⟨-, hLh, hLs, hLr, hDW, hEd, hNd, hAll, hndl, hRS, h51⟩ := id hSW
  have hHS : ∀ t ∈ HS, t < nd := fun t h9 => hAll t (List.mem_append_left _ h9)
  refine lv_aload_n hx hb dX8_both_0 rfl (lv_at hl 0 rfl) ?_
  refine lv_iload_n hx hb dX8_both_1 rfl (lv_at hl 1 rfl) ?_
  refine CQT.go (vx_runV (As := [.int x]) (rest := []) ⟨hx, hb, hml, hown, hts⟩ (c_X8_documentThere  g0 hSW hnd hlt _) (cwV 1 hts gX8_bothN_X8_documentThereN rfl rfl rfl (by decide +kernel) ⟨Nat.le_of_ble_eq_true rfl, Nat.le_of_ble_eq_true rfl⟩) ⟨pwt_blind, va_recv hK hP (ci := 9) (q0 := 0) rfl g0, fun U hU hW => pwt_pre hXT hA hS hK hP hD hU hW⟩ rfl rfl hl.1 rfl (lv_room (Nat.le_of_ble_eq_true rfl)) dX8_both_2 ⟨Nat.le_of_ble_eq_true rfl, Nat.le_of_ble_eq_true rfl⟩) hD hS hA (fun E9 ce9 q9 ws9 H9 locs9 hp9 hP9 hD9 hS9 hc9 hv9 hf9 => vx_out (fun x hx => (hto x hx).elim) hlocks hc9 hv9 hf9 (fun t9 ht9 hal9 => xct_here hK hP9 hD9 hS9 (⟨hp9.1, hp9.2.1, Or.inl hp9.2.2⟩) t9 hal9 (Nat.le_of_eq (by rw [ht9])) (fun q _ => by rw [ht9])) hS9.2.2 (Nat.le_of_ble_eq_true rfl) (Nat.le_of_ble_eq_true rfl)) (fun r_1 ws_2 H locs hp hP hD hS => ?_)
  obtain ⟨i0, tX, rfl, hsl, htX, rfl⟩ := hp
  refine W.widen (k := 1) (n := 6) (Nat.le_of_ble_eq_true rfl) (Nat.le_of_ble_eq_true rfl) ?_
  have htlX : tX < nd := hHS tX (List.mem_of_getElem? htX)
  refine lv_astore (lv' := [(4, .ref ((dd tX).1.2)), (0, .ref z0), (1, .int x), (2, .int y), (3, .int v)]) hx hb dX8_both_5 hl (by decide) rfl (fun ls hl => ?_)
  obtain ⟨⟨⟨pX, aX⟩, ⟨x1X, x2X, x3X, x4X⟩, ⟨nuX, zX⟩, fsX, fnX, flX, fhX⟩, hdxX⟩ : ∃ z : DX, z = dd tX := ⟨_, rfl⟩
  have hD5X := (hDW.1 tX htlX).1
  have hP51X : 51 ≤ pX := by have h9 := (hDW.1 tX htlX).2; rw [← hdxX] at h9; exact h9
  rw [← hdxX] at hD5X
  have gpX : ws[pX]? = some (aX, .inr (1, [.int (nI tX), .ref x1X, .ref x2X, .ref x3X, .ref x4X, .int (nI nuX), .int (nI zX)])) := hD5X.1
  have gpX_1 : ws[pX + 1]? = some (x1X, .inl (cJ, 94, .inr (.inl fsX))) := hD5X.2.1
  have gpX_2 : ws[pX + 2]? = some (x2X, .inl (cI, 800, .inl (fun jj => nI (fnX jj)))) := hD5X.2.2.1
  have gpX_3 : ws[pX + 3]? = some (x3X, .inl (cI, 64, .inl (fun jj => nI (flX jj)))) := hD5X.2.2.2.1
  have gpX_4 : ws[pX + 4]? = some (x4X, .inl (cI, 48, .inl (fun jj => nI (fhX jj)))) := hD5X.2.2.2.2
  have haX : (dd tX).1.2 = aX := by rw [← hdxX]
  have hl : lv_has ls 6 [(4, .ref aX), (0, .ref z0), (1, .int x), (2, .int y), (3, .int v)] := by rw [← show (dd tX).1.2 = aX from haX]; exact hl
  obtain ⟨hzX, hlX, hhX⟩ := hRow tX (List.mem_of_getElem? htX)
  rw [← hdxX] at hzX hlX hhX
  have hzX : zX ≤ 800 := hzX
  refine lv_aload_n hx hb dX8_both_7 rfl (lv_at hl 1 rfl) ?_
  refine lv_iload_n hx hb dX8_both_8 rfl (lv_at hl 3 rfl) ?_
  refine CQT.go (vx_runV (As := [.int y]) (rest := []) ⟨hx, hb, hml, hown, hts⟩ (c_X8_documentThere  g0 hSW hnd hlt _) (cwV 1 hts gX8_bothN_X8_documentThereN rfl rfl rfl (by decide +kernel) ⟨Nat.le_of_ble_eq_true rfl, Nat.le_of_ble_eq_true rfl⟩) ⟨pwt_blind, va_recv hK hP (ci := 9) (q0 := 0) rfl g0, fun U hU hW => pwt_pre hXT hA hS hK hP hD hU hW⟩ rfl rfl hl.1 rfl (lv_room (Nat.le_of_ble_eq_true rfl)) dX8_both_9 ⟨Nat.le_of_ble_eq_true rfl, Nat.le_of_ble_eq_true rfl⟩) hD hS hA (fun E9 ce9 q9 ws9 H9 locs9 hp9 hP9 hD9 hS9 hc9 hv9 hf9 => vx_out (fun x hx => (hto x hx).elim) hlocks hc9 hv9 hf9 (fun t9 ht9 hal9 => xct_here hK hP9 hD9 hS9 (⟨hp9.1, hp9.2.1, Or.inr (Or.inl hp9.2.2)⟩) t9 hal9 (Nat.le_of_eq (by rw [ht9])) (fun q _ => by rw [ht9])) hS9.2.2 (Nat.le_of_ble_eq_true rfl) (Nat.le_of_ble_eq_true rfl)) (fun r_3 ws_4 H locs hp hP hD hS => ?_)
  obtain ⟨j0, tY, rfl, hslb, htY, rfl⟩ := hp
  refine W.widen (k := 2) (n := 12) (Nat.le_of_ble_eq_true rfl) (Nat.le_of_ble_eq_true rfl) ?_
  have htlY : tY < nd := hHS tY (List.mem_of_getElem? htY)
  refine lv_astore (lv' := [(5, .ref ((dd tY).1.2)), (4, .ref aX), (0, .ref z0), (1, .int x), (2, .int y), (3, .int v)]) hx hb dX8_both_12 hl (by decide) rfl (fun ls hl => ?_)
  obtain ⟨⟨⟨pY, aY⟩, ⟨x1Y, x2Y, x3Y, x4Y⟩, ⟨nuY, zY⟩, fsY, fnY, flY, fhY⟩, hdxY⟩ : ∃ z : DX, z = dd tY := ⟨_, rfl⟩
  have hD5Y := (hDW.1 tY htlY).1
  have hP51Y : 51 ≤ pY := by have h9 := (hDW.1 tY htlY).2; rw [← hdxY] at h9; exact h9
  rw [← hdxY] at hD5Y
  have gpY : ws[pY]? = some (aY, .inr (1, [.int (nI tY), .ref x1Y, .ref x2Y, .ref x3Y, .ref x4Y, .int (nI nuY), .int (nI zY)])) := hD5Y.1
  have gpY_1 : ws[pY + 1]? = some (x1Y, .inl (cJ, 94, .inr (.inl fsY))) := hD5Y.2.1
  have gpY_2 : ws[pY + 2]? = some (x2Y, .inl (cI, 800, .inl (fun jj => nI (fnY jj)))) := hD5Y.2.2.1
  have gpY_3 : ws[pY + 3]? = some (x3Y, .inl (cI, 64, .inl (fun jj => nI (flY jj)))) := hD5Y.2.2.2.1
  have gpY_4 : ws[pY + 4]? = some (x4Y, .inl (cI, 48, .inl (fun jj => nI (fhY jj)))) := hD5Y.2.2.2.2
  have haY : (dd tY).1.2 = aY := by rw [← hdxY]
  have hl : lv_has ls 6 [(5, .ref aY), (4, .ref aX), (0, .ref z0), (1, .int x), (2, .int y), (3, .int v)] := by rw [← show (dd tY).1.2 = aY from haY]; exact hl
  obtain ⟨hzY, hlY, hhY⟩ := hRow tY (List.mem_of_getElem? htY)
  rw [← hdxY] at hzY hlY hhY
  have hzY : zY ≤ 800 := hzY
  have hs48 : tY < 48 := by omega
  have hleY : fhX tY ≤ zX + zY := Nat.le_trans (hhX tY (List.mem_of_getElem? htY)) (Nat.le_add_right _ _)
  have hm1 : fhX tY * qq < 2 ^ 31 := Nat.lt_of_le_of_lt (Nat.mul_le_mul (Nat.le_trans (hhX tY (List.mem_of_getElem? htY)) hzX) hq4) (by decide)
  have hm2 : (zX + zY - fhX tY) * pp < 2 ^ 31 := Nat.lt_of_le_of_lt (Nat.mul_le_mul (show zX + zY - fhX tY ≤ 1600 by omega) hp4) (by decide)
  have htw : twR dd rr bb pp qq tX tY = twinB (bandF zX zY flX flY rr bb) (fhX tY) (zX + zY - fhX tY) pp qq := by rw [twR, bdR, ← hdxX, ← hdxY]
  refine lv_iload_n hx hb dX8_both_14 rfl (lv_at hl 5 rfl) ?_
  refine lv_if_lt (tgt := 23) hx hb dX8_both_15 (by decide) (fun c_15 => ?_) (fun c_15 => ?_)
  · exact vt_thrX (text := "there is no such question") C hto hlt hXT hK hP hD hS hl.1 (by decide +kernel) (by decide +kernel) (by decide +kernel) (by decide +kernel) (fun w hw => List.mem_cons_of_mem _ (List.mem_append_right _ hw)) vtNX_m vtNX_g dX8_both_23 dX8_both_26 dX8_both_27 dX8_both_29 dX8_both_32 ⟨rfl, rfl, Or.inr (Or.inr (fun h => by first | exact h.1 c_15 | exact c_20 h.2 | exact absurd h.2 (Int32.not_le.mpr c_20)))⟩ (Nat.le_of_ble_eq_true rfl) (Nat.le_of_ble_eq_true rfl) (Nat.le_of_ble_eq_true rfl) (Nat.le_of_ble_eq_true rfl) (Nat.le_of_ble_eq_true rfl) (Nat.le_of_ble_eq_true rfl)
  · refine lv_iload_n hx hb dX8_both_18 rfl (lv_at hl 5 rfl) ?_
    refine lv_iconst (v := nI 4) hx hb dX8_both_19 (by decide) ?_
    refine lv_icmp_le (tgt := 33) hx hb dX8_both_20 (by decide) (fun c_20 => ?_) (fun c_20 => ?_)
    · refine lv_iload_n hx hb dX8_both_33 rfl (lv_at hl 5 rfl) ?_
      rcases tab_cases v 3 (by decide) with c_34 | ⟨j_34, hj_34, rfl⟩
      · refine lv_tableOut (tgt := 120) hx hb dX8_both_34 c_34 (by decide) ?_
        refine lv_aload_n hx hb dX8_both_120 rfl (lv_at hl 2 rfl) ?_
        refine va_get (D := D) (ci := 9) (v := .ref e0) (C := RX8) (T := TX8) (N := 9) hx hb hts hin_X8 hown hK hP 0 g0 rfl 4 (by decide) fl_40 (fun _ h9 => h9) rfl dX8_both_121 ?_
        refine lv_aload hx hb dX8_both_124 (lv_at hl 1 rfl) ?_
        refine lv_aload hx hb dX8_both_126 (lv_at hl 0 rfl) ?_
        refine CI.go (va_runV (As := [.ref aX, .ref aY]) (rest := []) ⟨hx, hb, hml, hown, hts⟩ (c_X2_areTwins  g20 gpX gpX_3 gpX_4 gpY gpY_3 hbr hb64 hr64 hzX hzY (fun k hk => hlX k hk) (fun k hk => hlY k hk) hs48 hleY hm1 hm2 _) (cwV 2 hts gX8_bothN_X2_areTwins rfl rfl rfl (by decide +kernel) ⟨Nat.le_of_ble_eq_true rfl, Nat.le_of_ble_eq_true rfl⟩) ⟨pw_blind, va_recv hK hP (ci := 3) (q0 := 20) rfl g20, fun U hU hW => pw_pre hK hP hD hU hW⟩ rfl rfl hl.1 rfl (lv_room (Nat.le_of_ble_eq_true rfl)) dX8_both_128 ⟨Nat.le_of_ble_eq_true rfl, Nat.le_of_ble_eq_true rfl⟩) hD hS hA (fun r_5 ws_6 H locs hp hP hD hS => ?_)
        obtain ⟨rfl, rfl⟩ := hp
        refine nx_if_eq (tgt := 138) hx hb (by exact bn2 _) dX8_both_131 (by decide) (fun c_131 => ?_) (fun c_131 => ?_)
        · refine lv_iconst (v := nI 0) hx hb dX8_both_138 (by decide) ?_
          exact CIT.ret (v := (nI 0)) C hK hP hD hS rfl (⟨i0, j0, tX, tY, (by first | (rw [bothC, if_pos rfl, ← hdxX]; done) | (rw [bothC, if_neg (by decide), if_pos rfl, ← hdxX, ← hdxY]; done) | (rw [bothC, if_neg (by decide), if_neg (by decide), if_pos rfl, ← hdxX, ← hdxY]; done) | (rw [bothC, if_neg (by decide), if_neg (by decide), if_neg (by decide), if_pos rfl, bdR, ← hdxX, ← hdxY]; done) | (rw [bothC, if_neg (tab_no c_34 (by decide) (by decide)), if_neg (tab_no c_34 (by decide) (by decide)), if_neg (tab_no c_34 (by decide) (by decide)), if_neg (tab_no c_34 (by decide) (by decide)), htw]; first | (rw [bool1 c_131]; rfl) | (rw [bool0 c_131]; rfl))), hsl, htX, hslb, htY, ⟨c_15, c_20⟩, rfl⟩) (by decide) (by decide) dX8_both_139
        · refine lv_iconst (v := nI 1) hx hb dX8_both_134 (by decide) ?_
          refine lv_goto (tgt := 139) hx hb dX8_both_135 (by decide) ?_
          exact CIT.ret (v := (nI 1)) C hK hP hD hS rfl (⟨i0, j0, tX, tY, (by first | (rw [bothC, if_pos rfl, ← hdxX]; done) | (rw [bothC, if_neg (by decide), if_pos rfl, ← hdxX, ← hdxY]; done) | (rw [bothC, if_neg (by decide), if_neg (by decide), if_pos rfl, ← hdxX, ← hdxY]; done) | (rw [bothC, if_neg (by decide), if_neg (by decide), if_neg (by decide), if_pos rfl, bdR, ← hdxX, ← hdxY]; done) | (rw [bothC, if_neg (tab_no c_34 (by decide) (by decide)), if_neg (tab_no c_34 (by decide) (by decide)), if_neg (tab_no c_34 (by decide) (by decide)), if_neg (tab_no c_34 (by decide) (by decide)), htw]; first | (rw [bool1 c_131]; rfl) | (rw [bool0 c_131]; rfl))), hsl, htX, hslb, htY, ⟨c_15, c_20⟩, rfl⟩) (by decide) (by decide) dX8_both_139
      · have hj2_34 : j_34 = 0 ∨ j_34 = 1 ∨ j_34 = 2 ∨ j_34 = 3 := by omega
        rcases hj2_34 with rfl | rfl | rfl | rfl
        · refine lv_tableIn (off := 30) (tgt := 64) hx hb dX8_both_34 (by decide) (by decide) (by decide) (by decide) ?_
          refine lv_aload_n hx hb dX8_both_64 rfl (lv_at hl 2 rfl) ?_
          refine va_get (D := D) (ci := 9) (v := .ref e0) (C := RX8) (T := TX8) (N := 9) hx hb hts hin_X8 hown hK hP 0 g0 rfl 4 (by decide) fl_40 (fun _ h9 => h9) rfl dX8_both_65 ?_
          refine lv_aload hx hb dX8_both_68 (lv_at hl 1 rfl) ?_
          refine lv_aload hx hb dX8_both_70 (lv_at hl 0 rfl) ?_
          refine CI.go (va_runV (As := [.ref aX, .ref aY]) (rest := []) ⟨hx, hb, hml, hown, hts⟩ (c_X2_common  gpX gpX_4 gpY hs48 _) (cwV 2 hts gX8_bothN_X2_common rfl rfl rfl (by decide +kernel) ⟨Nat.le_of_ble_eq_true rfl, Nat.le_of_ble_eq_true rfl⟩) ⟨pw_blind, va_recv hK hP (ci := 3) (q0 := 20) rfl g20, fun U hU hW => pw_pre hK hP hD hU hW⟩ rfl rfl hl.1 rfl (lv_room (Nat.le_of_ble_eq_true rfl)) dX8_both_72 ⟨Nat.le_of_ble_eq_true rfl, Nat.le_of_ble_eq_true rfl⟩) hD hS hA (fun r_7 ws_8 H locs hp hP hD hS => ?_)
          obtain ⟨rfl, rfl⟩ := hp
          refine lv_goto (tgt := 139) hx hb dX8_both_75 (by decide) ?_
          exact CIT.ret (v := (nI (fhX tY))) C hK hP hD hS rfl (⟨i0, j0, tX, tY, (by first | (rw [bothC, if_pos rfl, ← hdxX]; done) | (rw [bothC, if_neg (by decide), if_pos rfl, ← hdxX, ← hdxY]; done) | (rw [bothC, if_neg (by decide), if_neg (by decide), if_pos rfl, ← hdxX, ← hdxY]; done) | (rw [bothC, if_neg (by decide), if_neg (by decide), if_neg (by decide), if_pos rfl, bdR, ← hdxX, ← hdxY]; done) | (rw [bothC, if_neg (tab_no c_34 (by decide) (by decide)), if_neg (tab_no c_34 (by decide) (by decide)), if_neg (tab_no c_34 (by decide) (by decide)), if_neg (tab_no c_34 (by decide) (by decide)), htw]; first | (rw [bool1 c_131]; rfl) | (rw [bool0 c_131]; rfl))), hsl, htX, hslb, htY, ⟨c_15, c_20⟩, rfl⟩) (by decide) (by decide) dX8_both_139
        · refine lv_tableIn (off := 44) (tgt := 78) hx hb dX8_both_34 (by decide) (by decide) (by decide) (by decide) ?_
          refine lv_aload_n hx hb dX8_both_78 rfl (lv_at hl 2 rfl) ?_
          refine va_get (D := D) (ci := 9) (v := .ref e0) (C := RX8) (T := TX8) (N := 9) hx hb hts hin_X8 hown hK hP 0 g0 rfl 4 (by decide) fl_40 (fun _ h9 => h9) rfl dX8_both_79 ?_
          refine lv_aload hx hb dX8_both_82 (lv_at hl 1 rfl) ?_
          refine lv_aload hx hb dX8_both_84 (lv_at hl 0 rfl) ?_
          refine CI.go (va_runV (As := [.ref aX, .ref aY]) (rest := []) ⟨hx, hb, hml, hown, hts⟩ (c_X2_all  g20 gpX gpX_4 gpY hs48 hleY _) (cwV 2 hts gX8_bothN_X2_all rfl rfl rfl (by decide +kernel) ⟨Nat.le_of_ble_eq_true rfl, Nat.le_of_ble_eq_true rfl⟩) ⟨pw_blind, va_recv hK hP (ci := 3) (q0 := 20) rfl g20, fun U hU hW => pw_pre hK hP hD hU hW⟩ rfl rfl hl.1 rfl (lv_room (Nat.le_of_ble_eq_true rfl)) dX8_both_86 ⟨Nat.le_of_ble_eq_true rfl, Nat.le_of_ble_eq_true rfl⟩) hD hS hA (fun r_9 ws_10 H locs hp hP hD hS => ?_)
          obtain ⟨rfl, rfl⟩ := hp
          refine lv_goto (tgt := 139) hx hb dX8_both_89 (by decide) ?_
          exact CIT.ret (v := (nI (zX + zY - fhX tY))) C hK hP hD hS rfl (⟨i0, j0, tX, tY, (by first | (rw [bothC, if_pos rfl, ← hdxX]; done) | (rw [bothC, if_neg (by decide), if_pos rfl, ← hdxX, ← hdxY]; done) | (rw [bothC, if_neg (by decide), if_neg (by decide), if_pos rfl, ← hdxX, ← hdxY]; done) | (rw [bothC, if_neg (by decide), if_neg (by decide), if_neg (by decide), if_pos rfl, bdR, ← hdxX, ← hdxY]; done) | (rw [bothC, if_neg (tab_no c_34 (by decide) (by decide)), if_neg (tab_no c_34 (by decide) (by decide)), if_neg (tab_no c_34 (by decide) (by decide)), if_neg (tab_no c_34 (by decide) (by decide)), htw]; first | (rw [bool1 c_131]; rfl) | (rw [bool0 c_131]; rfl))), hsl, htX, hslb, htY, ⟨c_15, c_20⟩, rfl⟩) (by decide) (by decide) dX8_both_139
        · refine lv_tableIn (off := 58) (tgt := 92) hx hb dX8_both_34 (by decide) (by decide) (by decide) (by decide) ?_
          refine lv_aload_n hx hb dX8_both_92 rfl (lv_at hl 2 rfl) ?_
          refine va_get (D := D) (ci := 9) (v := .ref e0) (C := RX8) (T := TX8) (N := 9) hx hb hts hin_X8 hown hK hP 0 g0 rfl 4 (by decide) fl_40 (fun _ h9 => h9) rfl dX8_both_93 ?_
          refine lv_aload hx hb dX8_both_96 (lv_at hl 1 rfl) ?_
          refine lv_aload hx hb dX8_both_98 (lv_at hl 0 rfl) ?_
          refine CI.go (va_runV (As := [.ref aX, .ref aY]) (rest := []) ⟨hx, hb, hml, hown, hts⟩ (c_X2_sameImages  g20 gpX gpX_3 gpY gpY_3 hbr (fun k hk => hlX k hk) (fun k hk => hlY k hk) _) (cwV 2 hts gX8_bothN_X2_sameImages rfl rfl rfl (by decide +kernel) ⟨Nat.le_of_ble_eq_true rfl, Nat.le_of_ble_eq_true rfl⟩) ⟨pw_blind, va_recv hK hP (ci := 3) (q0 := 20) rfl g20, fun U hU hW => pw_pre hK hP hD hU hW⟩ rfl rfl hl.1 rfl (lv_room (Nat.le_of_ble_eq_true rfl)) dX8_both_100 ⟨Nat.le_of_ble_eq_true rfl, Nat.le_of_ble_eq_true rfl⟩) hD hS hA (fun r_11 ws_12 H locs hp hP hD hS => ?_)
          obtain ⟨rfl, rfl⟩ := hp
          refine lv_goto (tgt := 139) hx hb dX8_both_103 (by decide) ?_
          exact CIT.ret (v := (nI (cntE flX flY (bb * rr)))) C hK hP hD hS rfl (⟨i0, j0, tX, tY, (by first | (rw [bothC, if_pos rfl, ← hdxX]; done) | (rw [bothC, if_neg (by decide), if_pos rfl, ← hdxX, ← hdxY]; done) | (rw [bothC, if_neg (by decide), if_neg (by decide), if_pos rfl, ← hdxX, ← hdxY]; done) | (rw [bothC, if_neg (by decide), if_neg (by decide), if_neg (by decide), if_pos rfl, bdR, ← hdxX, ← hdxY]; done) | (rw [bothC, if_neg (tab_no c_34 (by decide) (by decide)), if_neg (tab_no c_34 (by decide) (by decide)), if_neg (tab_no c_34 (by decide) (by decide)), if_neg (tab_no c_34 (by decide) (by decide)), htw]; first | (rw [bool1 c_131]; rfl) | (rw [bool0 c_131]; rfl))), hsl, htX, hslb, htY, ⟨c_15, c_20⟩, rfl⟩) (by decide) (by decide) dX8_both_139
        · refine lv_tableIn (off := 72) (tgt := 106) hx hb dX8_both_34 (by decide) (by decide) (by decide) (by decide) ?_
          refine lv_aload_n hx hb dX8_both_106 rfl (lv_at hl 2 rfl) ?_
          refine va_get (D := D) (ci := 9) (v := .ref e0) (C := RX8) (T := TX8) (N := 9) hx hb hts hin_X8 hown hK hP 0 g0 rfl 4 (by decide) fl_40 (fun _ h9 => h9) rfl dX8_both_107 ?_
          refine lv_aload hx hb dX8_both_110 (lv_at hl 1 rfl) ?_
          refine lv_aload hx hb dX8_both_112 (lv_at hl 0 rfl) ?_
          refine CI.go (va_runV (As := [.ref aX, .ref aY]) (rest := []) ⟨hx, hb, hml, hown, hts⟩ (c_X2_firstBand  g20 gpX gpX_3 gpY gpY_3 hbr hb64 hr64 hzX hzY (fun k hk => hlX k hk) (fun k hk => hlY k hk) _) (cwV 2 hts gX8_bothN_X2_firstBand rfl rfl rfl (by decide +kernel) ⟨Nat.le_of_ble_eq_true rfl, Nat.le_of_ble_eq_true rfl⟩) ⟨pw_blind, va_recv hK hP (ci := 3) (q0 := 20) rfl g20, fun U hU hW => pw_pre hK hP hD hU hW⟩ rfl rfl hl.1 rfl (lv_room (Nat.le_of_ble_eq_true rfl)) dX8_both_114 ⟨Nat.le_of_ble_eq_true rfl, Nat.le_of_ble_eq_true rfl⟩) hD hS hA (fun r_13 ws_14 H locs hp hP hD hS => ?_)
          obtain ⟨rfl, rfl⟩ := hp
          refine lv_goto (tgt := 139) hx hb dX8_both_117 (by decide) ?_
          exact CIT.ret (v := (optI (bandF zX zY flX flY rr bb))) C hK hP hD hS rfl (⟨i0, j0, tX, tY, (by first | (rw [bothC, if_pos rfl, ← hdxX]; done) | (rw [bothC, if_neg (by decide), if_pos rfl, ← hdxX, ← hdxY]; done) | (rw [bothC, if_neg (by decide), if_neg (by decide), if_pos rfl, ← hdxX, ← hdxY]; done) | (rw [bothC, if_neg (by decide), if_neg (by decide), if_neg (by decide), if_pos rfl, bdR, ← hdxX, ← hdxY]; done) | (rw [bothC, if_neg (tab_no c_34 (by decide) (by decide)), if_neg (tab_no c_34 (by decide) (by decide)), if_neg (tab_no c_34 (by decide) (by decide)), if_neg (tab_no c_34 (by decide) (by decide)), htw]; first | (rw [bool1 c_131]; rfl) | (rw [bool0 c_131]; rfl))), hsl, htX, hslb, htY, ⟨c_15, c_20⟩, rfl⟩) (by decide) (by decide) dX8_both_139
    · exact vt_thrX (text := "there is no such question") C hto hlt hXT hK hP hD hS hl.1 (by decide +kernel) (by decide +kernel) (by decide +kernel) (by decide +kernel) (fun w hw => List.mem_cons_of_mem _ (List.mem_append_right _ hw)) vtNX_m vtNX_g dX8_both_23 dX8_both_26 dX8_both_27 dX8_both_29 dX8_both_32 ⟨rfl, rfl, Or.inr (Or.inr (fun h => by first | exact h.1 c_15 | exact c_20 h.2 | exact absurd h.2 (Int32.not_le.mpr c_20)))⟩ (Nat.le_of_ble_eq_true rfl) (Nat.le_of_ble_eq_true rfl) (Nat.le_of_ble_eq_true rfl) (Nat.le_of_ble_eq_true rfl) (Nat.le_of_ble_eq_true rfl) (Nat.le_of_ble_eq_true rfl)
