set_option maxHeartbeats 4000000 in
set_option maxRecDepth 100000 in
theorem c_X5_putAway {D : va_G} {cB cI cJ cO : ClassId} {l : Launch} {ad mi : Nat} {s0 s1 s2 s3 ca eh es er nd : Nat} {dd : Nat → DX} {HS SS RS : List Nat} {x : Int32} {ws : va_W}  (hSW : ShW ws cI cJ cO ad s0 s1 s2 s3 ca eh es er nd dd HS SS RS) (hnd : nd ≤ 48) : CIX D (TY cB cI cJ cO) l yX5_putAway wsX5_putAway ({ frames := 7, cells := 1, slots := 49, locals := 171 }) ad mi [.ref s0, .int x] ws (fun r ws' => ∃ es2 : Nat, r = nI ((slotOf (HS.map (fun t => (dd t).2.2.1.1)) x).isSome.toNat) ∧ (ShW ws' cI cJ cO ad s0 s1 s2 s3 ca eh es2 er nd dd (rmH HS (slotOf (HS.map (fun t => (dd t).2.2.1.1)) x)) (adSp SS HS (slotOf (HS.map (fun t => (dd t).2.2.1.1)) x)) RS) ∧ Sm (fun k => k = 17 ∨ k = 18 ∨ 51 ≤ k) ws ws') := by
  refine CIX.of (cc := cX5_putAway) (maxL := 3) (ret := (some .boolean)) (by decide) rfl (Nat.le_of_ble_eq_true rfl) ?_
  intro p e s m below meth c A C hK hP hD hA hS hX ls hl
  have hN := hX.1
  obtain ⟨hx, hb, hr, hml, hts, hown, hlocks, hnm⟩ := id C
  have fl_12 := hts (.fieldLink RX5 12 "TwinFinder$Shelf" "here" "Ljava/util/ArrayList;") (by decide +kernel)
  have fl_18 := hts (.fieldLink RX5 18 "TwinFinder$Shelf" "spare" "Ljava/util/ArrayList;") (by decide +kernel)
  have hin_X5 : ∀ w ∈ u_ws RX5 TX5 4, w ∈ wsX5_putAway := by decide +kernel
  have hl : lv_has ls 3 [(0, .ref s0), (1, .int x)] := hl
  have sm : Sm (fun k => k = 17 ∨ k = 18 ∨ 51 ≤ k) ws ws := Sm.rf
  have hc0 : (0 : Nat) ≤ 1 := by decide
  have hs0 : (0 : Nat) ≤ 49 := by decide
  obtain ⟨g16, hLh, hLs, hLr, hDW, hEd, hNd, hAll, hndl, hRS, h51⟩ := id hSW
  have hHS : ∀ t ∈ HS, t < nd := fun t h9 => hAll t (List.mem_append_left _ h9)
  have hSS : ∀ t ∈ SS, t < nd := fun t h9 => hAll t (List.mem_append_right _ h9)
  have hf0 := fresh_ad hX hD
  refine lv_aload_n hx hb dX5_putAway_0 rfl (lv_at hl 0 rfl) ?_
  refine lv_iload_n hx hb dX5_putAway_1 rfl (lv_at hl 1 rfl) ?_
  refine CI.go (va_runV (As := [.int x]) (rest := []) ⟨hx, hb, hml, hown, hts⟩ (c_X5_placeOf  g16 hLh hDW hHS (by omega) _) (cwV 1 hts gX5_putAway_X5_placeOf rfl rfl rfl (by decide +kernel) ⟨Nat.le_of_ble_eq_true rfl, Nat.le_of_ble_eq_true rfl⟩) ⟨pw_blind, va_recv hK hP (ci := 6) (q0 := 16) rfl g16, fun U hU hW => pw_pre hK hP hD hU hW⟩ rfl rfl hl.1 rfl (lv_room (Nat.le_of_ble_eq_true rfl)) dX5_putAway_2 ⟨Nat.le_of_ble_eq_true rfl, Nat.le_of_ble_eq_true rfl⟩) hD hS hA (fun r_1 ws_2 H locs hp hP hD hS => ?_)
  obtain ⟨rfl, rfl⟩ := hp
  rcases hsl : slotOf (HS.map (fun t => (dd t).2.2.1.1)) x with _ | k
  · try simp only [optI]
    refine lv_istore_n (lv' := [(2, .int (-1)), (0, .ref s0), (1, .int x)]) hx hb dX5_putAway_5 rfl hl (by decide) rfl (fun ls hl => ?_)
    refine lv_iload_n hx hb dX5_putAway_6 rfl (lv_at hl 0 rfl) ?_
    refine lv_iconst (v := -1) hx hb dX5_putAway_7 (by decide) ?_
    refine lv_icmp_ne (tgt := 13) hx hb dX5_putAway_8 (by decide) (fun c_8 => absurd (by decide) c_8) (fun c_8 => ?_)
    refine lv_iconst (v := nI 0) hx hb dX5_putAway_11 (by decide) ?_
    exact CI.ret (v := (nI 0)) C hK hP hD hS (by decide) (⟨es, rfl, hSW, sm⟩) hc0 hs0 dX5_putAway_12
  · try simp only [optI]
    have hk9 : k < HS.length := by have h9 := (slotOf_lt hsl).1; rw [List.length_map] at h9; exact h9
    refine lv_istore_n (lv' := [(2, .int (nI k)), (0, .ref s0), (1, .int x)]) hx hb dX5_putAway_5 rfl hl (by decide) rfl (fun ls hl => ?_)
    refine lv_iload_n hx hb dX5_putAway_6 rfl (lv_at hl 0 rfl) ?_
    refine lv_iconst (v := -1) hx hb dX5_putAway_7 (by decide) ?_
    refine lv_icmp_ne (tgt := 13) hx hb dX5_putAway_8 (by decide) (fun c_8 => ?_) (fun c_8 => ?_)
    · have hk : k < HS.length := by have h9 := (slotOf_lt hsl).1; rw [List.length_map] at h9; exact h9
      obtain ⟨tQ, htQ⟩ : ∃ t, HS[k]? = some t := ⟨_, List.getElem?_eq_getElem hk⟩
      have htlQ : tQ < nd := hHS tQ (List.mem_of_getElem? htQ)
      have hnl := hndl
      obtain ⟨⟨⟨pQ, aQ⟩, ⟨x1Q, x2Q, x3Q, x4Q⟩, ⟨nuQ, zQ⟩, fsQ, fnQ, flQ, fhQ⟩, hdxQ⟩ : ∃ z : DX, z = dd tQ := ⟨_, rfl⟩
      have hD5Q := (hDW.1 tQ htlQ).1
      have hP51Q : 51 ≤ pQ := by have h9 := (hDW.1 tQ htlQ).2; rw [← hdxQ] at h9; exact h9
      rw [← hdxQ] at hD5Q
      have gpQ : ws[pQ]? = some (aQ, .inr (1, [.int (nI tQ), .ref x1Q, .ref x2Q, .ref x3Q, .ref x4Q, .int (nI nuQ), .int (nI zQ)])) := hD5Q.1
      have gpQ_1 : ws[pQ + 1]? = some (x1Q, .inl (cJ, 94, .inr (.inl fsQ))) := hD5Q.2.1
      have gpQ_2 : ws[pQ + 2]? = some (x2Q, .inl (cI, 800, .inl (fun jj => nI (fnQ jj)))) := hD5Q.2.2.1
      have gpQ_3 : ws[pQ + 3]? = some (x3Q, .inl (cI, 64, .inl (fun jj => nI (flQ jj)))) := hD5Q.2.2.2.1
      have gpQ_4 : ws[pQ + 4]? = some (x4Q, .inl (cI, 48, .inl (fun jj => nI (fhQ jj)))) := hD5Q.2.2.2.2
      refine lv_aload_n hx hb dX5_putAway_13 rfl (lv_at hl 1 rfl) ?_
      refine va_get (D := D) (ci := 6) (v := .ref s2) (C := RX5) (T := TX5) (N := 4) hx hb hts hin_X5 hown hK hP 16 g16 rfl 1 (by decide) fl_18 (fun _ h9 => h9) rfl dX5_putAway_14 ?_
      refine lv_aload_n hx hb dX5_putAway_17 rfl (lv_at hl 1 rfl) ?_
      refine va_get (D := D) (ci := 6) (v := .ref s1) (C := RX5) (T := TX5) (N := 4) hx hb hts hin_X5 hown hK hP 16 g16 rfl 0 (by decide) fl_12 (fun _ h9 => h9) rfl dX5_putAway_18 ?_
      refine lv_iload_n hx hb dX5_putAway_21 rfl (lv_at hl 0 rfl) ?_
      refine CQ.go (va_runV (As := [.int (nI k)]) (rest := [.ref s2]) ⟨hx, hb, hml, hown, hts⟩ (c_L_remove   hLh (map_at htQ (by rw [← hdxQ])) (hDW.din hHS) _) (cwV 1 hts gX5_putAway_Jx4a65c_remove_915e3 rfl rfl rfl (by decide +kernel) ⟨Nat.le_of_ble_eq_true rfl, Nat.le_of_ble_eq_true rfl⟩) ⟨pwx_blind, LW.recv hK hP hLh, fun U hU hW => pwx_pre hX hA hS hK hP hD hU hW⟩ rfl rfl hl.1 rfl (lv_room (Nat.le_of_ble_eq_true rfl)) dX5_putAway_22 ⟨Nat.le_of_ble_eq_true rfl, Nat.le_of_ble_eq_true rfl⟩) hD hS hA (fun r_3 ws_4 H locs hp hP hD hS => ?_)
      obtain ⟨rfl, hLh2, hel9, smR⟩ := hp
      have g16 := smR.get g16 (nq g16 (by omega) (fun n9 f9 => by simp))
      have gpQ := smR.get gpQ (nq gpQ (by omega) (fun n9 f9 => by simp))
      have gpQ_1 := smR.get gpQ_1 (nq gpQ_1 (by omega) (fun n9 f9 => by simp))
      have gpQ_2 := smR.get gpQ_2 (nq gpQ_2 (by omega) (fun n9 f9 => by simp))
      have gpQ_3 := smR.get gpQ_3 (nq gpQ_3 (by omega) (fun n9 f9 => by simp))
      have gpQ_4 := smR.get gpQ_4 (nq gpQ_4 (by omega) (fun n9 f9 => by simp))
      have sm := sm.call smR (fun k hk => hk.elim (fun h9 => by (try simp only); omega) (fun h9 => by have h8 := h9.1; (try simp only); omega))
      have hLs := hLs.frame smR (by decide) (by decide) (hLs.he hf0 (fun e9 => e9.trans (hEd.1 e9.symm))) (by decide)
      have hLr := hLr.frame smR (by decide) (by decide) (hLr.he hf0 (fun e9 => e9.trans (hEd.2.1 e9.symm))) (by decide)
      have hDW := hDW.frame smR (by decide)
      have hf0 := fresh_ad hX hD
      have hLh : LW ws_4 cO ad 17 s1 eh ((HS.eraseIdx k).map (fun t => (dd t).1.2)) := by rw [← map_er]; exact hLh2
      refine va_castS hx hb hown (hts (.classLink RX5 36 RX0) (by decide +kernel)) (hK.1 1 _ rfl).2 (va_recv hK hP (ci := 1) (q0 := pQ) rfl gpQ) dX5_putAway_25 ?_
      refine CI.go (va_runV (As := [.ref aQ]) (rest := []) ⟨hx, hb, hml, hown, hts⟩ (c_L_add   hLs gpQ (by rw [List.length_map]; omega) (hDW.din hSS) (by decide) (Nat.le_trans h51 sm.1) _) (cwV 1 hts gX5_putAway_Jx4a65c_add_9ea2d rfl rfl rfl (by decide +kernel) ⟨Nat.le_of_ble_eq_true rfl, Nat.le_of_ble_eq_true rfl⟩) ⟨pwx_blind, LW.recv hK hP hLs, fun U hU hW => pwx_pre hX hA hS hK hP hD hU hW⟩ rfl rfl hl.1 rfl (lv_room (Nat.le_of_ble_eq_true rfl)) dX5_putAway_28 ⟨Nat.le_of_ble_eq_true rfl, Nat.le_of_ble_eq_true rfl⟩) hD hS hA (fun r_5 ws_6 H locs hp hP hD hS => ?_)
      obtain ⟨es2, rfl, hLs2, he2, hel8, smR⟩ := hp
      have g16 := smR.get g16 (nq g16 (by omega) (fun n9 f9 => by simp))
      have gpQ := smR.get gpQ (nq gpQ (by omega) (fun n9 f9 => by simp))
      have gpQ_1 := smR.get gpQ_1 (nq gpQ_1 (by omega) (fun n9 f9 => by simp))
      have gpQ_2 := smR.get gpQ_2 (nq gpQ_2 (by omega) (fun n9 f9 => by simp))
      have gpQ_3 := smR.get gpQ_3 (nq gpQ_3 (by omega) (fun n9 f9 => by simp))
      have gpQ_4 := smR.get gpQ_4 (nq gpQ_4 (by omega) (fun n9 f9 => by simp))
      have sm := sm.call smR (fun k hk => hk.elim (fun h9 => by (try simp only); omega) (fun h9 => by have h8 := h9.1; (try simp only); omega))
      refine W.widen (k := 1) (n := 49) (Nat.le_of_ble_eq_true rfl) (Nat.le_of_ble_eq_true rfl) ?_
      have hEd1 := hLh.ed he2 hEd.1
      have hEd3 := hLr.ed he2 (fun e9 => e9.trans (hEd.2.2 e9.symm))
      have hLh := hLh.frame smR (by decide) (by decide) (hLh.he hf0 hEd.1) (by decide)
      have hLr := hLr.frame smR (by decide) (by decide) (hLr.he hf0 (fun e9 => e9.trans (hEd.2.2 e9.symm))) (by decide)
      have hDW := hDW.frame smR (by decide)
      have hf0 := fresh_ad hX hD
      have hLs : LW ws_6 cO ad 18 s2 es2 ((SS ++ [tQ]).map (fun t => (dd t).1.2)) := by rw [← map_ap (by rw [← hdxQ])]; exact hLs2
      refine lv_pop hx hb dX5_putAway_31 rfl ?_
      refine lv_iconst (v := nI 1) hx hb dX5_putAway_32 (by decide) ?_
      exact CI.ret (v := (nI 1)) C hK hP hD hS (by decide) (⟨es2, rfl, (by obtain ⟨l1, l2, l3⟩ := sw_lists hNd hAll hndl htQ; exact ⟨g16, hLh, by show LW _ cO ad 18 s2 es2 ((SS ++ [HS.getD k 0]).map (fun t => (dd t).1.2)); rw [getD_at htQ]; exact hLs, hLr, hDW, ⟨hEd1, hEd.2.1, fun e9 => e9.trans (hEd3 e9.symm)⟩, by show (HS.eraseIdx k ++ (SS ++ [HS.getD k 0])).Nodup; rw [getD_at htQ]; exact l1, by show ∀ t ∈ HS.eraseIdx k ++ (SS ++ [HS.getD k 0]), t < nd; rw [getD_at htQ]; exact l2, by show nd = (HS.eraseIdx k).length + (SS ++ [HS.getD k 0]).length; rw [getD_at htQ]; exact l3, hRS, Nat.le_trans h51 sm.1⟩), sm⟩) (by decide) (by decide) dX5_putAway_33
    · exact absurd c_8 (nI_nm1 (by omega))
