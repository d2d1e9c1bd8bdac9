set_option maxHeartbeats 4000000 in
set_option maxRecDepth 100000 in
theorem c_X5_isFull {D : va_G} {cB cI cJ cO : ClassId} {l : Launch} {s0 s1 s2 s3 ca ad eh : Nat} {nd : Nat} {dd : Nat → DX} {HS : List Nat} {ws : va_W} (g16 : ws[16]? = some (s0, .inr (6, [.ref s1, .ref s2, .ref s3, .int (nI ca)]))) (hLh : LW ws cO ad 17 s1 eh (HS.map (fun t => (dd t).1.2))) (hDW : DW ws cI cJ nd dd) (hHS : ∀ t ∈ HS, t < nd) (h48 : HS.length ≤ 48) (hca : ca ≤ 400) : CI D (TY cB cI cJ cO) l yX5_isFull wsX5_isFull ({ frames := 1, cells := 0, slots := 0, locals := 20 }) [.ref s0] ws (fun r ws' => r = nI ((decide (48 ≤ HS.length) || decide (400 ≤ ca)).toNat) ∧ ws = ws') := by
  refine CI.of (cc := cX5_isFull) (maxL := 1) (ret := (some .boolean)) (by decide) rfl (Nat.le_of_ble_eq_true rfl) ?_
  intro p e s m below meth c A C hK hP hD hA hS ls hl
  obtain ⟨hx, hb, hr, hml, hts, hown, hlocks, hnm⟩ := id C
  have fl_12 := hts (.fieldLink RX5 12 "TwinFinder$Shelf" "here" "Ljava/util/ArrayList;") (by decide +kernel)
  have fl_28 := hts (.fieldLink RX5 28 "TwinFinder$Shelf" "came" "I") (by decide +kernel)
  have hin_X5 : ∀ w ∈ u_ws RX5 TX5 4, w ∈ wsX5_isFull := by decide +kernel
  have hl : lv_has ls 1 [(0, .ref s0)] := hl
  have sm : Sm (fun _ => False) ws ws := Sm.rf
  have hc0 : (0 : Nat) ≤ 0 := by decide
  have hs0 : (0 : Nat) ≤ 0 := by decide
  refine lv_aload_n hx hb dX5_isFull_0 rfl (lv_at hl 0 rfl) ?_
  refine va_get (D := D) (ci := 6) (v := .ref s1) (C := RX5) (T := TX5) (N := 4) hx hb hts hin_X5 hown hK hP 16 g16 rfl 0 (by decide) fl_12 (fun _ h9 => h9) rfl dX5_isFull_1 ?_
  refine CI.go (va_runV (As := []) (rest := []) ⟨hx, hb, hml, hown, hts⟩ (c_L_size   hLh _) (cwV 0 hts gX5_isFull_Jx4a65c_size_8abf5 rfl rfl rfl (by decide +kernel) ⟨Nat.le_of_ble_eq_true rfl, Nat.le_of_ble_eq_true rfl⟩) ⟨pw_blind, LW.recv hK hP hLh, fun U hU hW => pw_pre hK hP hD hU hW⟩ rfl rfl hl.1 rfl (lv_room (Nat.le_of_ble_eq_true rfl)) dX5_isFull_4 ⟨Nat.le_of_ble_eq_true rfl, Nat.le_of_ble_eq_true rfl⟩) hD hS hA (fun r_1 ws_2 H locs hp hP hD hS => ?_)
  obtain ⟨rfl, rfl⟩ := hp
  rw [List.length_map]
  refine lv_bipush (v := nI 48) hx hb dX5_isFull_7 (by decide) ?_
  refine nx_icmp_ge (tgt := 22) hx hb (by omega) (by omega) dX5_isFull_9 (by decide) (fun c_9 => ?_) (fun c_9 => ?_)
  · refine lv_iconst (v := nI 1) hx hb dX5_isFull_22 (by decide) ?_
    refine lv_goto (tgt := 27) hx hb dX5_isFull_23 (by decide) ?_
    exact CI.ret (v := (nI 1)) C hK hP hD hS (by decide) (⟨(by rw [decide_eq_true (show 48 ≤ HS.length by omega)]; rfl), rfl⟩) hc0 hs0 dX5_isFull_27
  · refine lv_aload_n hx hb dX5_isFull_12 rfl (lv_at hl 0 rfl) ?_
    refine va_get (D := D) (ci := 6) (v := .int (nI ca)) (C := RX5) (T := TX5) (N := 4) hx hb hts hin_X5 hown hK hP 16 g16 rfl 3 (by decide) fl_28 (fun _ h9 => h9) rfl dX5_isFull_13 ?_
    refine lv_sipush (v := nI 400) hx hb dX5_isFull_16 (by decide) ?_
    refine nx_icmp_lt (tgt := 26) hx hb (by omega) (by omega) dX5_isFull_19 (by decide) (fun c_19 => ?_) (fun c_19 => ?_)
    · refine lv_iconst (v := nI 0) hx hb dX5_isFull_26 (by decide) ?_
      exact CI.ret (v := (nI 0)) C hK hP hD hS (by decide) (⟨(by rw [decide_eq_false (show ¬ 48 ≤ HS.length by omega), decide_eq_false (show ¬ 400 ≤ ca by omega)]; rfl), rfl⟩) hc0 hs0 dX5_isFull_27
    · refine lv_iconst (v := nI 1) hx hb dX5_isFull_22 (by decide) ?_
      refine lv_goto (tgt := 27) hx hb dX5_isFull_23 (by decide) ?_
      exact CI.ret (v := (nI 1)) C hK hP hD hS (by decide) (⟨(by rw [decide_eq_false (show ¬ 48 ≤ HS.length by omega), decide_eq_true (show 400 ≤ ca by omega)]; rfl), rfl⟩) hc0 hs0 dX5_isFull_27
set_option maxHeartbeats 4000000 in
set_option maxRecDepth 100000 in
theorem c_X5_placeOf {D : va_G} {cB cI cJ cO : ClassId} {l : Launch} {s0 s1 s2 s3 ca ad eh : Nat} {nd : Nat} {dd : Nat → DX} {HS : List Nat} {x : Int32} {ws : va_W} (g16 : ws[16]? = some (s0, .inr (6, [.ref s1, .ref s2, .ref s3, .int (nI ca)]))) (hLh : LW ws cO ad 17 s1 eh (HS.map (fun t => (dd t).1.2))) (hDW : DW ws cI cJ nd dd) (hHS : ∀ t ∈ HS, t < nd) (h48 : HS.length ≤ 48) : CI D (TY cB cI cJ cO) l yX5_placeOf wsX5_placeOf ({ frames := 3, cells := 0, slots := 0, locals := 64 }) [.ref s0, .int x] ws (fun r ws' => r = optI (slotOf (HS.map (fun t => (dd t).2.2.1.1)) x) ∧ ws = ws') := by
  refine CI.of (cc := cX5_placeOf) (maxL := 3) (ret := (some .int)) (by decide) rfl (Nat.le_of_ble_eq_true rfl) ?_
  intro p e s m below meth c A C hK hP hD hA hS ls hl
  obtain ⟨hx, hb, hr, hml, hts, hown, hlocks, hnm⟩ := id C
  have fl_12 := hts (.fieldLink RX5 12 "TwinFinder$Shelf" "here" "Ljava/util/ArrayList;") (by decide +kernel)
  have fl_38 := hts (.fieldLink RX5 38 "TwinFinder$Document" "number" "I") (by decide +kernel)
  have hin_X0 : ∀ w ∈ u_ws RX0 TX0 7, w ∈ wsX5_placeOf := by decide +kernel
  have hin_X5 : ∀ w ∈ u_ws RX5 TX5 4, w ∈ wsX5_placeOf := by decide +kernel
  have hl : lv_has ls 3 [(0, .ref s0), (1, .int x)] := hl
  have sm : Sm (fun _ => False) ws ws := Sm.rf
  have hc0 : (0 : Nat) ≤ 0 := by decide
  have hs0 : (0 : Nat) ≤ 0 := by decide
  refine lv_iconst (v := nI 0) hx hb dX5_placeOf_0 (by decide) ?_
  refine lv_istore_n (lv' := [(2, .int (nI 0)), (0, .ref s0), (1, .int x)]) hx hb dX5_placeOf_1 rfl hl (by decide) rfl (fun ls hl => ?_)
  have lp_2 : ∀ (fuel : Nat) (i : Nat), HS.length - i < fuel → (i ≤ HS.length) → (∀ j (hj : j < (HS.map (fun t => (dd t).2.2.1.1)).length), j < i → ¬ nI (HS.map (fun t => (dd t).2.2.1.1))[j] = x) → ∀ (H : Heap) (locs : List Loc) (ls : Array Slot),  va_P D vwCl ws H → va_D A ws → va_S A s.heap H locs → lv_has ls 3 [(0, .ref s0), (1, .int x), (2, .int (nI i))] → W p l e ({ frames := 3, cells := 0, slots := 0, locals := 64 }) s m ([.ref s0, .int x] : List Value).toArray below meth c H locs 0 0 (ZI D (TY cB cI cJ cO) (fun r ws' => r = optI (slotOf (HS.map (fun t => (dd t).2.2.1.1)) x) ∧ ws = ws') below [.ref s0, .int x] s 0 0 A) (F0 m 2 ls []) := by
    intro fuel
    induction fuel with
    | zero => intro i hfu; exact absurd hfu (Nat.not_lt_zero _)
    | succ fuel ih_2 =>
      intro i hfu_2 hi hno H locs ls hP hD hS hl
      refine lv_iload_n hx hb dX5_placeOf_2 rfl (lv_at hl 2 rfl) ?_
      refine lv_aload_n hx hb dX5_placeOf_3 rfl (lv_at hl 0 rfl) ?_
      refine va_get (D := D) (ci := 6) (v := .ref s1) (C := RX5) (T := TX5) (N := 4) hx hb hts hin_X5 hown hK hP 16 g16 rfl 0 (by decide) fl_12 (fun _ h9 => h9) rfl dX5_placeOf_4 ?_
      refine CI.go (va_runV (As := []) (rest := [.int (nI i)]) ⟨hx, hb, hml, hown, hts⟩ (c_L_size   hLh _) (cwV 0 hts gX5_placeOf_Jx4a65c_size_8abf5 rfl rfl rfl (by decide +kernel) ⟨Nat.le_of_ble_eq_true rfl, Nat.le_of_ble_eq_true rfl⟩) ⟨pw_blind, LW.recv hK hP hLh, fun U hU hW => pw_pre hK hP hD hU hW⟩ rfl rfl hl.1 rfl (lv_room (Nat.le_of_ble_eq_true rfl)) dX5_placeOf_7 ⟨Nat.le_of_ble_eq_true rfl, Nat.le_of_ble_eq_true rfl⟩) hD hS hA (fun r_1 ws_2 H locs hp hP hD hS => ?_)
      obtain ⟨rfl, rfl⟩ := hp
      rw [List.length_map]
      refine nx_icmp_ge (tgt := 39) hx hb (by omega) (by omega) dX5_placeOf_10 (by decide) (fun c_10 => ?_) (fun c_10 => ?_)
      · refine lv_iconst (v := -1) hx hb dX5_placeOf_39 (by decide) ?_
        exact CI.ret (v := (-1)) C hK hP hD hS rfl (⟨(by rw [slotOf_none (fun j hj => hno j hj (by rw [List.length_map] at hj; omega))]; rfl), rfl⟩) hc0 hs0 dX5_placeOf_40
      · obtain ⟨tQ, htQ⟩ : ∃ t, HS[i]? = some t := ⟨_, List.getElem?_eq_getElem (by omega)⟩
        have htlQ : tQ < nd := hHS tQ (List.mem_of_getElem? htQ)
        obtain ⟨⟨⟨pQ, aQ⟩, ⟨x1Q, x2Q, x3Q, x4Q⟩, ⟨nuQ, zQ⟩, fsQ, fnQ, flQ, fhQ⟩, hdxQ⟩ : ∃ z : DX, z = dd tQ := ⟨_, rfl⟩
        have hD5Q := (hDW.1 tQ htlQ).1
        have hP51Q : 51 ≤ pQ := by have h9 := (hDW.1 tQ htlQ).2; rw [← hdxQ] at h9; exact h9
        rw [← hdxQ] at hD5Q
        have gpQ : ws[pQ]? = some (aQ, .inr (1, [.int (nI tQ), .ref x1Q, .ref x2Q, .ref x3Q, .ref x4Q, .int (nI nuQ), .int (nI zQ)])) := hD5Q.1
        have gpQ_1 : ws[pQ + 1]? = some (x1Q, .inl (cJ, 94, .inr (.inl fsQ))) := hD5Q.2.1
        have gpQ_2 : ws[pQ + 2]? = some (x2Q, .inl (cI, 800, .inl (fun jj => nI (fnQ jj)))) := hD5Q.2.2.1
        have gpQ_3 : ws[pQ + 3]? = some (x3Q, .inl (cI, 64, .inl (fun jj => nI (flQ jj)))) := hD5Q.2.2.2.1
        have gpQ_4 : ws[pQ + 4]? = some (x4Q, .inl (cI, 48, .inl (fun jj => nI (fhQ jj)))) := hD5Q.2.2.2.2
        have hnQ : (HS.map (fun t => (dd t).2.2.1.1))[i]? = some nuQ := by rw [List.getElem?_map, htQ]; show some (dd tQ).2.2.1.1 = _; rw [← hdxQ]
        refine lv_aload_n hx hb dX5_placeOf_13 rfl (lv_at hl 0 rfl) ?_
        refine va_get (D := D) (ci := 6) (v := .ref s1) (C := RX5) (T := TX5) (N := 4) hx hb hts hin_X5 hown hK hP 16 g16 rfl 0 (by decide) fl_12 (fun _ h9 => h9) rfl dX5_placeOf_14 ?_
        refine lv_iload_n hx hb dX5_placeOf_17 rfl (lv_at hl 2 rfl) ?_
        refine CQ.go (va_runV (As := [.int (nI i)]) (rest := []) ⟨hx, hb, hml, hown, hts⟩ (c_L_get   hLh (map_at htQ (by rw [← hdxQ])) _) (cwV 1 hts gX5_placeOf_Jx4a65c_get_915e3 rfl rfl rfl (by decide +kernel) ⟨Nat.le_of_ble_eq_true rfl, Nat.le_of_ble_eq_true rfl⟩) ⟨pw_blind, LW.recv hK hP hLh, fun U hU hW => pw_pre hK hP hD hU hW⟩ rfl rfl hl.1 rfl (lv_room (Nat.le_of_ble_eq_true rfl)) dX5_placeOf_18 ⟨Nat.le_of_ble_eq_true rfl, Nat.le_of_ble_eq_true rfl⟩) hD hS hA (fun r_3 ws_4 H locs hp hP hD hS => ?_)
        obtain ⟨rfl, rfl⟩ := hp
        refine va_castS hx hb hown (hts (.classLink RX5 36 RX0) (by decide +kernel)) (hK.1 1 _ rfl).2 (va_recv hK hP (ci := 1) (q0 := pQ) rfl gpQ) dX5_placeOf_21 ?_
        refine va_get (D := D) (ci := 1) (v := .int (nI nuQ)) (C := RX0) (T := TX0) (N := 7) hx hb hts hin_X0 hown hK hP pQ gpQ rfl 5 (by decide) fl_38 (fun _ h9 => h9) rfl dX5_placeOf_24 ?_
        refine lv_iload_n hx hb dX5_placeOf_27 rfl (lv_at hl 1 rfl) ?_
        refine lv_icmp_ne (tgt := 33) hx hb dX5_placeOf_28 (by decide) (fun c_28 => ?_) (fun c_28 => ?_)
        · refine lv_iinc (v := (nI (i + 1))) (lv' := [(2, .int (nI (i + 1))), (0, .ref s0), (1, .int x)]) hx hb dX5_placeOf_33 hl (k := 2) rfl (nx_inc _ 1) (by decide) rfl (fun ls hl => ?_)
          refine lv_goto (tgt := 2) hx hb dX5_placeOf_36 (by decide) ?_
          exact ih_2 (i + 1) (by omega) (by omega) (fun j hj h1 => (Nat.lt_or_eq_of_le (Nat.le_of_lt_succ h1)).elim (hno j hj) (fun e2 => by subst e2; rw [(List.getElem?_eq_some_iff.mp hnQ).2]; exact c_28)) _ _ _  hP hD hS (lv_sub hl [1, 2, 0] rfl)
        · refine lv_iload_n hx hb dX5_placeOf_31 rfl (lv_at hl 2 rfl) ?_
          exact CI.ret (v := (nI i)) C hK hP hD hS rfl (⟨(by rw [slotOf_some (i := i) (by rw [List.length_map]; omega) (by rw [(List.getElem?_eq_some_iff.mp hnQ).2]; exact c_28) hno]; rfl), rfl⟩) hc0 hs0 dX5_placeOf_32
  exact lp_2 _ 0 (Nat.lt_succ_self _) (Nat.zero_le _) (fun j _ hj => absurd hj (Nat.not_lt_zero j)) _ _ _  hP hD hS (lv_sub hl [1, 2, 0] rfl)
