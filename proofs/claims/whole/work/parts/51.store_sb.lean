set_option maxHeartbeats 4000000 in
set_option maxRecDepth 100000 in
theorem c_X6_bytesUsed {D : va_G} {cB cI cJ cO : ClassId} {l : Launch} {t0 t1 t2 t3 t4 nm : Nat} {lf : Nat → Int32} {bf sf se : Nat → Nat} {sh : List (List Int32)} {ws : va_W} (g5 : ws[5]? = some (t0, .inr (7, [.ref t1, .ref t2, .ref t3, .ref t4, .int (nI nm)]))) (g7 : ws[7]? = some (t2, .inl (cI, 6001, .inl (fun jj => nI (bf jj))))) (hst : StC sh lf bf sf se) (hsn : sh.length = nm) (hn6 : nm ≤ 6000) (hby : sh.flatten.length ≤ 50000) : CI D (TY cB cI cJ cO) l yX6_bytesUsed wsX6_bytesUsed ({ frames := 0, cells := 0, slots := 0, locals := 0 }) [.ref t0] ws (fun r ws' => r = nI (sh.flatten.length) ∧ ws = ws') := by
  refine CI.of (cc := cX6_bytesUsed) (maxL := 1) (ret := (some .int)) (by decide) rfl (Nat.le_of_ble_eq_true rfl) ?_
  intro p e s m below meth c A C hK hP hD hA hS ls hl
  obtain ⟨hx, hb, hr, hml, hts, hown, hlocks, hnm⟩ := id C
  have fl_16 := hts (.fieldLink RX6 16 "TwinFinder$Store" "begin" "[I") (by decide +kernel)
  have fl_26 := hts (.fieldLink RX6 26 "TwinFinder$Store" "given" "I") (by decide +kernel)
  have hin_X6 : ∀ w ∈ u_ws RX6 TX6 5, w ∈ wsX6_bytesUsed := by decide +kernel
  have hl : lv_has ls 1 [(0, .ref t0)] := hl
  have sm : Sm (fun _ => False) ws ws := Sm.rf
  have hc0 : (0 : Nat) ≤ 0 := by decide
  have hs0 : (0 : Nat) ≤ 0 := by decide
  refine lv_aload_n hx hb dX6_bytesUsed_0 rfl (lv_at hl 0 rfl) ?_
  refine va_get (D := D) (ci := 7) (v := .ref t2) (C := RX6) (T := TX6) (N := 5) hx hb hts hin_X6 hown hK hP 5 g5 rfl 1 (by decide) fl_16 (fun _ h9 => h9) rfl dX6_bytesUsed_1 ?_
  refine lv_aload_n hx hb dX6_bytesUsed_4 rfl (lv_at hl 0 rfl) ?_
  refine va_get (D := D) (ci := 7) (v := .int (nI nm)) (C := RX6) (T := TX6) (N := 5) hx hb hts hin_X6 hown hK hP 5 g5 rfl 4 (by decide) fl_26 (fun _ h9 => h9) rfl dX6_bytesUsed_5 ?_
  refine nx_iald hx hb hK hP 7 1 g7 rfl (k := nm) (by omega) (by decide) dX6_bytesUsed_8 ?_
  exact CI.ret (v := (nI (bf nm))) C hK hP hD hS rfl (⟨(by rw [hst.2.1 nm (by omega), ← hsn, ofs_all]), rfl⟩) hc0 hs0 dX6_bytesUsed_9
set_option maxHeartbeats 4000000 in
set_option maxRecDepth 100000 in
theorem c_X6_byteOf {D : va_G} {cB cI cJ cO : ClassId} {l : Launch} {t0 t1 t2 t3 t4 nm : Nat} {lf : Nat → Int32} {bf sf se : Nat → Nat} {sh : List (List Int32)} {x k : Int32} {ws : va_W} (g5 : ws[5]? = some (t0, .inr (7, [.ref t1, .ref t2, .ref t3, .ref t4, .int (nI nm)]))) (g6 : ws[6]? = some (t1, .inl (cB, 50000, .inl lf))) (g7 : ws[7]? = some (t2, .inl (cI, 6001, .inl (fun jj => nI (bf jj))))) (hst : StC sh lf bf sf se) (hsn : sh.length = nm) (hn6 : nm ≤ 6000) (hby : sh.flatten.length ≤ 50000) : CI D (TY cB cI cJ cO) l yX6_byteOf wsX6_byteOf ({ frames := 0, cells := 0, slots := 0, locals := 0 }) [.ref t0, .int x, .int k] ws (fun r ws' => r = letR sh x k ∧ ws = ws') := by
  refine CI.of (cc := cX6_byteOf) (maxL := 3) (ret := (some .int)) (by decide) rfl (Nat.le_of_ble_eq_true rfl) ?_
  intro p e s m below meth c A C hK hP hD hA hS ls hl
  obtain ⟨hx, hb, hr, hml, hts, hown, hlocks, hnm⟩ := id C
  have fl_10 := hts (.fieldLink RX6 10 "TwinFinder$Store" "letters" "[B") (by decide +kernel)
  have fl_16 := hts (.fieldLink RX6 16 "TwinFinder$Store" "begin" "[I") (by decide +kernel)
  have fl_26 := hts (.fieldLink RX6 26 "TwinFinder$Store" "given" "I") (by decide +kernel)
  have hin_X6 : ∀ w ∈ u_ws RX6 TX6 5, w ∈ wsX6_byteOf := by decide +kernel
  have hl : lv_has ls 3 [(0, .ref t0), (1, .int x), (2, .int k)] := hl
  have sm : Sm (fun _ => False) ws ws := Sm.rf
  have hc0 : (0 : Nat) ≤ 0 := by decide
  have hs0 : (0 : Nat) ≤ 0 := by decide
  refine lv_iload_n hx hb dX6_byteOf_0 rfl (lv_at hl 1 rfl) ?_
  refine lv_if_lt (tgt := 35) hx hb dX6_byteOf_1 (by decide) (fun c_1 => ?_) (fun c_1 => ?_)
  · refine lv_iconst (v := -1) hx hb dX6_byteOf_35 (by decide) ?_
    exact CI.ret (v := (-1)) C hK hP hD hS rfl (⟨(by rw [letR, if_neg]; intro h; exact h.1 c_1), rfl⟩) hc0 hs0 dX6_byteOf_36
  · refine lv_iload_n hx hb dX6_byteOf_4 rfl (lv_at hl 1 rfl) ?_
    refine lv_aload_n hx hb dX6_byteOf_5 rfl (lv_at hl 0 rfl) ?_
    refine va_get (D := D) (ci := 7) (v := .int (nI nm)) (C := RX6) (T := TX6) (N := 5) hx hb hts hin_X6 hown hK hP 5 g5 rfl 4 (by decide) fl_26 (fun _ h9 => h9) rfl dX6_byteOf_6 ?_
    refine lv_icmp_ge (tgt := 35) hx hb dX6_byteOf_9 (by decide) (fun c_9 => ?_) (fun c_9 => ?_)
    · refine lv_iconst (v := -1) hx hb dX6_byteOf_35 (by decide) ?_
      exact CI.ret (v := (-1)) C hK hP hD hS rfl (⟨(by rw [letR, if_neg]; intro h; exact (Int32.not_le.mpr (by rw [← hsn]; exact h.2.1)) c_9), rfl⟩) hc0 hs0 dX6_byteOf_36
    · obtain ⟨x1, hx1, rfl⟩ := nI_of c_1
      have hx2 : x1 < nm := nI_lt' (by omega) (Int32.not_le.mp c_9) hx1
      have hb1 := hst.2.1 x1 (by omega)
      have hb2 := hst.2.1 (x1 + 1) (by omega)
      have hos := ofs_s (sh := sh) (i := x1) (by omega)
      have hol := ofs_le (sh := sh) (i := x1 + 1)
      have hbd : bf (x1 + 1) - bf x1 = sh[x1].length := by omega
      refine lv_iload_n hx hb dX6_byteOf_12 rfl (lv_at hl 2 rfl) ?_
      refine lv_if_lt (tgt := 35) hx hb dX6_byteOf_13 (by decide) (fun c_13 => ?_) (fun c_13 => ?_)
      · refine lv_iconst (v := -1) hx hb dX6_byteOf_35 (by decide) ?_
        exact CI.ret (v := (-1)) C hK hP hD hS rfl (⟨(by rw [letR, if_neg]; intro h; exact h.2.2.1 c_13), rfl⟩) hc0 hs0 dX6_byteOf_36
      · refine lv_iload_n hx hb dX6_byteOf_16 rfl (lv_at hl 2 rfl) ?_
        refine lv_aload_n hx hb dX6_byteOf_17 rfl (lv_at hl 0 rfl) ?_
        refine va_get (D := D) (ci := 7) (v := .ref t2) (C := RX6) (T := TX6) (N := 5) hx hb hts hin_X6 hown hK hP 5 g5 rfl 1 (by decide) fl_16 (fun _ h9 => h9) rfl dX6_byteOf_18 ?_
        refine lv_iload_n hx hb dX6_byteOf_21 rfl (lv_at hl 1 rfl) ?_
        refine lv_iconst (v := nI 1) hx hb dX6_byteOf_22 (by decide) ?_
        refine nx_iadd hx hb dX6_byteOf_23 ?_
        refine nx_iald hx hb hK hP 7 1 g7 rfl (k := (x1 + 1)) (by omega) (by decide) dX6_byteOf_24 ?_
        refine lv_aload_n hx hb dX6_byteOf_25 rfl (lv_at hl 0 rfl) ?_
        refine va_get (D := D) (ci := 7) (v := .ref t2) (C := RX6) (T := TX6) (N := 5) hx hb hts hin_X6 hown hK hP 5 g5 rfl 1 (by decide) fl_16 (fun _ h9 => h9) rfl dX6_byteOf_26 ?_
        refine lv_iload_n hx hb dX6_byteOf_29 rfl (lv_at hl 1 rfl) ?_
        refine nx_iald hx hb hK hP 7 1 g7 rfl (k := x1) (by omega) (by decide) dX6_byteOf_30 ?_
        refine nx_isub hx hb (by omega) dX6_byteOf_31 ?_
        refine lv_icmp_lt (tgt := 37) hx hb dX6_byteOf_32 (by decide) (fun c_32 => ?_) (fun c_32 => ?_)
        · obtain ⟨k1, hk1, rfl⟩ := nI_of c_13
          rw [hbd] at c_32
          have hk2 : k1 < sh[x1].length := nI_lt' (by omega) c_32 hk1
          refine lv_aload_n hx hb dX6_byteOf_37 rfl (lv_at hl 0 rfl) ?_
          refine va_get (D := D) (ci := 7) (v := .ref t1) (C := RX6) (T := TX6) (N := 5) hx hb hts hin_X6 hown hK hP 5 g5 rfl 0 (by decide) fl_10 (fun _ h9 => h9) rfl dX6_byteOf_38 ?_
          refine lv_aload_n hx hb dX6_byteOf_41 rfl (lv_at hl 0 rfl) ?_
          refine va_get (D := D) (ci := 7) (v := .ref t2) (C := RX6) (T := TX6) (N := 5) hx hb hts hin_X6 hown hK hP 5 g5 rfl 1 (by decide) fl_16 (fun _ h9 => h9) rfl dX6_byteOf_42 ?_
          refine lv_iload_n hx hb dX6_byteOf_45 rfl (lv_at hl 1 rfl) ?_
          refine nx_iald hx hb hK hP 7 1 g7 rfl (k := x1) (by omega) (by decide) dX6_byteOf_46 ?_
          refine lv_iload_n hx hb dX6_byteOf_47 rfl (lv_at hl 2 rfl) ?_
          refine nx_iadd hx hb dX6_byteOf_48 ?_
          refine nx_bald hx hb hK hP 6 0 g6 rfl (k := ((bf x1) + k1)) (by omega) (by decide) dX6_byteOf_49 ?_
          exact CI.ret (v := (lf ((bf x1) + k1))) C hK hP hD hS rfl (⟨(by rw [letR, if_pos ⟨nI_pos hx1, by rw [hsn]; exact nI_lt hx2 (by omega), nI_pos hk1, by rw [nI_clamp hx1, gLd (by omega)]; exact c_32⟩, nI_clamp hx1, nI_clamp hk1, gLd (by omega), hst.letter (by omega) hk2, List.getD_eq_getElem?_getD, List.getElem?_eq_getElem hk2, Option.getD_some]), rfl⟩) hc0 hs0 dX6_byteOf_50
        · refine lv_iconst (v := -1) hx hb dX6_byteOf_35 (by decide) ?_
          exact CI.ret (v := (-1)) C hK hP hD hS rfl (⟨(by rw [letR, if_neg]; intro h; exact c_32 (by rw [hbd]; have h9 := h.2.2.2; rw [nI_clamp hx1, gLd (by omega)] at h9; exact h9)), rfl⟩) hc0 hs0 dX6_byteOf_36
set_option maxHeartbeats 4000000 in
set_option maxRecDepth 100000 in
theorem c_X6_firstSeat {D : va_G} {cB cI cJ cO : ClassId} {l : Launch} {tx : Nat} {fp : Nat → Int32} {at_ to_ : Nat} {TX : List Int32} {ws : va_W} (g3 : ws[3]? = some (tx, .inl (cB, 800, .inl fp))) (hTl : TX.length = to_ - at_) (hat : at_ ≤ to_) (hto : to_ ≤ 800) (hTx : ∀ t (ht : t < TX.length), fp (at_ + t) = TX[t]) : CI D (TY cB cI cJ cO) l yX6_firstSeat wsX6_firstSeat ({ frames := 0, cells := 0, slots := 0, locals := 0 }) [.ref tx, .int (nI at_), .int (nI to_)] ws (fun r ws' => r = nI (haS TX) ∧ ws = ws') := by
  refine CI.of (cc := cX6_firstSeat) (maxL := 5) (ret := (some .int)) (by decide) rfl (Nat.le_of_ble_eq_true rfl) ?_
  intro p e s m below meth c A C hK hP hD hA hS ls hl
  obtain ⟨hx, hb, hr, hml, hts, hown, hlocks, hnm⟩ := id C
  have hl : lv_has ls 5 [(0, .ref tx), (1, .int (nI at_)), (2, .int (nI to_))] := hl
  have sm : Sm (fun _ => False) ws ws := Sm.rf
  have hc0 : (0 : Nat) ≤ 0 := by decide
  have hs0 : (0 : Nat) ≤ 0 := by decide
  refine lv_iconst (v := nI 0) hx hb dX6_firstSeat_0 (by decide) ?_
  refine lv_istore_n (lv' := [(3, .int (nI 0)), (0, .ref tx), (1, .int (nI at_)), (2, .int (nI to_))]) hx hb dX6_firstSeat_1 rfl hl (by decide) rfl (fun ls hl => ?_)
  refine lv_iload_n hx hb dX6_firstSeat_2 rfl (lv_at hl 2 rfl) ?_
  refine lv_istore (lv' := [(4, .int (nI at_)), (3, .int (nI 0)), (0, .ref tx), (1, .int (nI at_)), (2, .int (nI to_))]) hx hb dX6_firstSeat_3 hl (by decide) rfl (fun ls hl => ?_)
  have lp_5 : ∀ (fuel : Nat) (i : Nat), TX.length - i < fuel → (i ≤ TX.length) → ∀ (H : Heap) (locs : List Loc) (ls : Array Slot),  va_P D vwCl ws H → va_D A ws → va_S A s.heap H locs → lv_has ls 5 [(0, .ref tx), (1, .int (nI at_)), (2, .int (nI to_)), (3, .int (hzS (TX.take i))), (4, .int (nI (at_ + i)))] → W p l e ({ frames := 0, cells := 0, slots := 0, locals := 0 }) s m ([.ref tx, .int (nI at_), .int (nI to_)] : List Value).toArray below meth c H locs 0 0 (ZI D (TY cB cI cJ cO) (fun r ws' => r = nI (haS TX) ∧ ws = ws') below [.ref tx, .int (nI at_), .int (nI to_)] s 0 0 A) (F0 m 5 ls []) := by
    intro fuel
    induction fuel with
    | zero => intro i hfu; exact absurd hfu (Nat.not_lt_zero _)
    | succ fuel ih_5 =>
      intro i hfu_5 hi H locs ls hP hD hS hl
      refine lv_iload hx hb dX6_firstSeat_5 (lv_at hl 4 rfl) ?_
      refine lv_iload_n hx hb dX6_firstSeat_7 rfl (lv_at hl 2 rfl) ?_
      refine nx_icmp_ge (tgt := 27) hx hb (by omega) (by omega) dX6_firstSeat_8 (by decide) (fun c_8 => ?_) (fun c_8 => ?_)
      · refine lv_iload_n hx hb dX6_firstSeat_27 rfl (lv_at hl 3 rfl) ?_
        refine lv_iload_n hx hb dX6_firstSeat_28 rfl (lv_at hl 3 rfl) ?_
        refine lv_bipush (v := nI 14) hx hb dX6_firstSeat_29 (by decide) ?_
        refine lv_iushr hx hb dX6_firstSeat_31 rfl ?_
        refine lv_ixor hx hb dX6_firstSeat_32 ?_
        refine lv_sipush (v := nI 16383) hx hb dX6_firstSeat_33 (by decide) ?_
        refine lv_iand hx hb dX6_firstSeat_36 ?_
        exact CI.ret (v := (((hzS (TX.take i)) ^^^ (((hzS (TX.take i)).toUInt32 >>> ((nI 14).toUInt32 &&& Int32.toUInt32 31)).toInt32)) &&& (nI 16383))) C hK hP hD hS rfl (⟨(by rw [show TX.take i = TX from List.take_of_length_le (by omega)]; exact hS_nI TX), rfl⟩) hc0 hs0 dX6_firstSeat_37
      · refine lv_iload_n hx hb dX6_firstSeat_11 rfl (lv_at hl 3 rfl) ?_
        refine lv_bipush (v := nI 31) hx hb dX6_firstSeat_12 (by decide) ?_
        refine lv_imul hx hb dX6_firstSeat_14 ?_
        refine lv_aload_n hx hb dX6_firstSeat_15 rfl (lv_at hl 0 rfl) ?_
        refine lv_iload hx hb dX6_firstSeat_16 (lv_at hl 4 rfl) ?_
        refine nx_bald hx hb hK hP 3 0 g3 rfl (k := (at_ + i)) (by omega) (by decide) dX6_firstSeat_18 ?_
        refine lv_iadd hx hb dX6_firstSeat_19 ?_
        refine lv_istore_n (lv' := [(3, .int (((hzS (TX.take i)) * (nI 31)) + (fp (at_ + i)))), (0, .ref tx), (1, .int (nI at_)), (2, .int (nI to_)), (4, .int (nI (at_ + i)))]) hx hb dX6_firstSeat_20 rfl hl (by decide) rfl (fun ls hl => ?_)
        refine lv_iinc (v := (nI ((at_ + i) + 1))) (lv' := [(4, .int (nI ((at_ + i) + 1))), (3, .int (((hzS (TX.take i)) * (nI 31)) + (fp (at_ + i)))), (0, .ref tx), (1, .int (nI at_)), (2, .int (nI to_))]) hx hb dX6_firstSeat_21 hl (k := 4) rfl (nx_inc _ 1) (by decide) rfl (fun ls hl => ?_)
        refine lv_goto (tgt := 5) hx hb dX6_firstSeat_24 (by decide) ?_
        have hl : lv_has ls 5 [(4, .int (nI ((at_ + i) + 1))), (3, .int (hzS (TX.take (i + 1)))), (0, .ref tx), (1, .int (nI at_)), (2, .int (nI to_))] := by rw [← show ((hzS (TX.take i)) * (nI 31)) + (fp (at_ + i)) = hzS (TX.take (i + 1)) from (by rw [hz_take (by omega), hTx i (by omega)])]; exact hl
        exact ih_5 (i + 1) (by omega) (by omega) _ _ _  hP hD hS (lv_sub hl [2, 3, 4, 1, 0] rfl)
  exact lp_5 _ 0 (Nat.lt_succ_self _) (Nat.zero_le _) _ _ _  hP hD hS (lv_sub hl [2, 3, 4, 1, 0] rfl)
set_option maxHeartbeats 4000000 in
set_option maxRecDepth 100000 in
theorem c_X6_isThere {D : va_G} {cB cI cJ cO : ClassId} {l : Launch} {t0 t1 t2 t3 t4 nm : Nat} {lf : Nat → Int32} {bf sf se : Nat → Nat} {sh : List (List Int32)} {tx : Nat} {fp : Nat → Int32} {at_ to_ : Nat} {TX : List Int32} {k : Nat} {ws : va_W} (g5 : ws[5]? = some (t0, .inr (7, [.ref t1, .ref t2, .ref t3, .ref t4, .int (nI nm)]))) (g6 : ws[6]? = some (t1, .inl (cB, 50000, .inl lf))) (g7 : ws[7]? = some (t2, .inl (cI, 6001, .inl (fun jj => nI (bf jj))))) (g3 : ws[3]? = some (tx, .inl (cB, 800, .inl fp))) (hst : StC sh lf bf sf se) (hsn : sh.length = nm) (hn6 : nm ≤ 6000) (hby : sh.flatten.length ≤ 50000) (hTl : TX.length = to_ - at_) (hat : at_ ≤ to_) (hto : to_ ≤ 800) (hTx : ∀ t (ht : t < TX.length), fp (at_ + t) = TX[t]) (hk : k < nm) : CI D (TY cB cI cJ cO) l yX6_isThere wsX6_isThere ({ frames := 0, cells := 0, slots := 0, locals := 0 }) [.ref t0, .int (nI k), .ref tx, .int (nI at_), .int (nI to_)] ws (fun r ws' => r = nI ((decide (sh.getD k [] = TX)).toNat) ∧ ws = ws') := by
  refine CI.of (cc := cX6_isThere) (maxL := 7) (ret := (some .boolean)) (by decide) rfl (Nat.le_of_ble_eq_true rfl) ?_
  intro p e s m below meth c A C hK hP hD hA hS ls hl
  obtain ⟨hx, hb, hr, hml, hts, hown, hlocks, hnm⟩ := id C
  have fl_10 := hts (.fieldLink RX6 10 "TwinFinder$Store" "letters" "[B") (by decide +kernel)
  have fl_16 := hts (.fieldLink RX6 16 "TwinFinder$Store" "begin" "[I") (by decide +kernel)
  have hin_X6 : ∀ w ∈ u_ws RX6 TX6 5, w ∈ wsX6_isThere := by decide +kernel
  have hl : lv_has ls 7 [(0, .ref t0), (1, .int (nI k)), (2, .ref tx), (3, .int (nI at_)), (4, .int (nI to_))] := hl
  have sm : Sm (fun _ => False) ws ws := Sm.rf
  have hc0 : (0 : Nat) ≤ 0 := by decide
  have hs0 : (0 : Nat) ≤ 0 := by decide
  have hb1 := hst.2.1 k (by omega)
  have hb2 := hst.2.1 (k + 1) (by omega)
  have hos := ofs_s (sh := sh) (i := k) (by omega)
  have hol := ofs_le (sh := sh) (i := k + 1)
  refine lv_aload_n hx hb dX6_isThere_0 rfl (lv_at hl 0 rfl) ?_
  refine va_get (D := D) (ci := 7) (v := .ref t2) (C := RX6) (T := TX6) (N := 5) hx hb hts hin_X6 hown hK hP 5 g5 rfl 1 (by decide) fl_16 (fun _ h9 => h9) rfl dX6_isThere_1 ?_
  refine lv_iload_n hx hb dX6_isThere_4 rfl (lv_at hl 1 rfl) ?_
  refine nx_iald hx hb hK hP 7 1 g7 rfl (k := k) (by omega) (by decide) dX6_isThere_5 ?_
  refine lv_istore (lv' := [(5, .int (nI (bf k))), (0, .ref t0), (1, .int (nI k)), (2, .ref tx), (3, .int (nI at_)), (4, .int (nI to_))]) hx hb dX6_isThere_6 hl (by decide) rfl (fun ls hl => ?_)
  refine lv_aload_n hx hb dX6_isThere_8 rfl (lv_at hl 1 rfl) ?_
  refine va_get (D := D) (ci := 7) (v := .ref t2) (C := RX6) (T := TX6) (N := 5) hx hb hts hin_X6 hown hK hP 5 g5 rfl 1 (by decide) fl_16 (fun _ h9 => h9) rfl dX6_isThere_9 ?_
  refine lv_iload_n hx hb dX6_isThere_12 rfl (lv_at hl 2 rfl) ?_
  refine lv_iconst (v := nI 1) hx hb dX6_isThere_13 (by decide) ?_
  refine nx_iadd hx hb dX6_isThere_14 ?_
  refine nx_iald hx hb hK hP 7 1 g7 rfl (k := (k + 1)) (by omega) (by decide) dX6_isThere_15 ?_
  refine lv_iload hx hb dX6_isThere_16 (lv_at hl 0 rfl) ?_
  refine nx_isub hx hb (by omega) dX6_isThere_18 ?_
  refine lv_iload hx hb dX6_isThere_19 (lv_at hl 5 rfl) ?_
  refine lv_iload_n hx hb dX6_isThere_21 rfl (lv_at hl 4 rfl) ?_
  refine nx_isub hx hb (by omega) dX6_isThere_22 ?_
  refine nx_icmp_eq (tgt := 28) hx hb (by omega) (by omega) dX6_isThere_23 (by decide) (fun c_23 => ?_) (fun c_23 => ?_)
  · have hlk : sh[k].length = TX.length := by omega
    refine lv_iload_n hx hb dX6_isThere_28 rfl (lv_at hl 4 rfl) ?_
    refine lv_istore (lv' := [(6, .int (nI at_)), (5, .int (nI (bf k))), (0, .ref t0), (1, .int (nI k)), (2, .ref tx), (3, .int (nI at_)), (4, .int (nI to_))]) hx hb dX6_isThere_29 hl (by decide) rfl (fun ls hl => ?_)
    have lp_31 : ∀ (fuel : Nat) (i : Nat), TX.length - i < fuel → (i ≤ TX.length) → (∀ t (ht : t < TX.length), t < i → (sh.getD k []).getD t 0 = TX[t]) → ∀ (H : Heap) (locs : List Loc) (ls : Array Slot),  va_P D vwCl ws H → va_D A ws → va_S A s.heap H locs → lv_has ls 7 [(0, .ref t0), (1, .int (nI k)), (2, .ref tx), (3, .int (nI at_)), (4, .int (nI to_)), (5, .int (nI (bf k))), (6, .int (nI (at_ + i)))] → W p l e ({ frames := 0, cells := 0, slots := 0, locals := 0 }) s m ([.ref t0, .int (nI k), .ref tx, .int (nI at_), .int (nI to_)] : List Value).toArray below meth c H locs 0 0 (ZI D (TY cB cI cJ cO) (fun r ws' => r = nI ((decide (sh.getD k [] = TX)).toNat) ∧ ws = ws') below [.ref t0, .int (nI k), .ref tx, .int (nI at_), .int (nI to_)] s 0 0 A) (F0 m 31 ls []) := by
      intro fuel
      induction fuel with
      | zero => intro i hfu; exact absurd hfu (Nat.not_lt_zero _)
      | succ fuel ih_31 =>
        intro i hfu_31 hi heq H locs ls hP hD hS hl
        refine lv_iload hx hb dX6_isThere_31 (lv_at hl 6 rfl) ?_
        refine lv_iload hx hb dX6_isThere_33 (lv_at hl 4 rfl) ?_
        refine nx_icmp_ge (tgt := 65) hx hb (by omega) (by omega) dX6_isThere_35 (by decide) (fun c_35 => ?_) (fun c_35 => ?_)
        · refine lv_iconst (v := nI 1) hx hb dX6_isThere_65 (by decide) ?_
          exact CI.ret (v := (nI 1)) C hK hP hD hS (by decide) (⟨(by rw [decide_eq_true (idx_eq (by rw [gLd (by omega)]; exact hlk) (fun t ht => heq t ht (by omega)))]; rfl), rfl⟩) hc0 hs0 dX6_isThere_66
        · refine lv_aload_n hx hb dX6_isThere_38 rfl (lv_at hl 0 rfl) ?_
          refine va_get (D := D) (ci := 7) (v := .ref t1) (C := RX6) (T := TX6) (N := 5) hx hb hts hin_X6 hown hK hP 5 g5 rfl 0 (by decide) fl_10 (fun _ h9 => h9) rfl dX6_isThere_39 ?_
          refine lv_iload hx hb dX6_isThere_42 (lv_at hl 5 rfl) ?_
          refine lv_iload hx hb dX6_isThere_44 (lv_at hl 6 rfl) ?_
          refine nx_iadd hx hb dX6_isThere_46 ?_
          refine lv_iload_n hx hb dX6_isThere_47 rfl (lv_at hl 3 rfl) ?_
          refine nx_isub hx hb (by omega) dX6_isThere_48 ?_
          refine nx_bald hx hb hK hP 6 0 g6 rfl (k := (((bf k) + (at_ + i)) - at_)) (by omega) (by decide) dX6_isThere_49 ?_
          refine lv_aload_n hx hb dX6_isThere_50 rfl (lv_at hl 2 rfl) ?_
          refine lv_iload hx hb dX6_isThere_51 (lv_at hl 6 rfl) ?_
          refine nx_bald hx hb hK hP 3 0 g3 rfl (k := (at_ + i)) (by omega) (by decide) dX6_isThere_53 ?_
          refine lv_icmp_eq (tgt := 59) hx hb dX6_isThere_54 (by decide) (fun c_54 => ?_) (fun c_54 => ?_)
          · refine lv_iinc (v := (nI ((at_ + i) + 1))) (lv' := [(6, .int (nI ((at_ + i) + 1))), (0, .ref t0), (1, .int (nI k)), (2, .ref tx), (3, .int (nI at_)), (4, .int (nI to_)), (5, .int (nI (bf k)))]) hx hb dX6_isThere_59 hl (k := 6) rfl (nx_inc _ 1) (by decide) rfl (fun ls hl => ?_)
            refine lv_goto (tgt := 31) hx hb dX6_isThere_62 (by decide) ?_
            rw [show bf k + (at_ + i) - at_ = bf k + i by omega, hst.letter (by omega) (by omega), hTx i (by omega)] at c_54
            exact ih_31 (i + 1) (by omega) (by omega) (fun t ht h => (Nat.lt_or_eq_of_le (Nat.le_of_lt_succ h)).elim (heq t ht) (fun e2 => by subst e2; rw [gLd (by omega), List.getD_eq_getElem?_getD, List.getElem?_eq_getElem (by omega), Option.getD_some]; exact c_54)) _ _ _  hP hD hS (lv_sub hl [1, 2, 3, 4, 5, 6, 0] rfl)
          · refine lv_iconst (v := nI 0) hx hb dX6_isThere_57 (by decide) ?_
            exact CI.ret (v := (nI 0)) C hK hP hD hS (by decide) (⟨(by rw [show bf k + (at_ + i) - at_ = bf k + i by omega, hst.letter (by omega) (by omega), hTx i (by omega)] at c_54; rw [gLd (by omega), decide_eq_false (fun h => c_54 (by simp only [h]))]; rfl), rfl⟩) hc0 hs0 dX6_isThere_58
    exact lp_31 _ 0 (Nat.lt_succ_self _) (Nat.zero_le _) (fun t _ h => absurd h (Nat.not_lt_zero t)) _ _ _  hP hD hS (lv_sub hl [2, 3, 4, 5, 6, 1, 0] rfl)
  · refine lv_iconst (v := nI 0) hx hb dX6_isThere_26 (by decide) ?_
    exact CI.ret (v := (nI 0)) C hK hP hD hS (by decide) (⟨(by rw [gLd (by omega), decide_eq_false (fun h => c_23 (by rw [hTl.symm, ← h]; omega))]; rfl), rfl⟩) hc0 hs0 dX6_isThere_27
