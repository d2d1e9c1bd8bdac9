set_option maxHeartbeats 4000000 in
set_option maxRecDepth 100000 in
theorem c_X5_othersByNearness {D : va_G} {cB cI cJ cO : ClassId} {l : Launch} {ad mi : Nat} {e0 bb rr pp qq : Nat} {s0 s1 s2 s3 ca eh es er nd : Nat} {dd : Nat → DX} {HS SS RS : List Nat} {tX bX : Nat} {ws : va_W} (g20 : ws[20]? = some (e0, .inr (3, [.int (nI bb), .int (nI rr), .int (nI pp), .int (nI qq)]))) (hSW : ShW ws cI cJ cO ad s0 s1 s2 s3 ca eh es er nd dd HS SS RS) (hnd : nd ≤ 48) (hRow : RowOK dd HS) (hXm : tX ∈ HS) (hbX : (dd tX).1.2 = bX) : CQX D (TY cB cI cJ cO) l yX5_othersByNearness wsX5_othersByNearness ({ frames := 6, cells := 48, slots := 2352, locals := 151 }) ad mi [.ref s0, .ref bX, .ref e0] ws (fun r ws' => ∃ er2 : Nat, r = some (s3) ∧ (ShW ws' cI cJ cO ad s0 s1 s2 s3 ca eh es er2 nd dd HS SS (ordL dd tX HS)) ∧ Sm (fun k => k = 19 ∨ 51 ≤ k) ws ws') := by
  refine CQX.of (cc := cX5_othersByNearness) (maxL := 5) (ret := (some (.object "java/util/ArrayList"))) (by decide) rfl (Nat.le_of_ble_eq_true rfl) ?_
  intro p e s m below meth c A C hK hP hD hA hS hX ls hl
  have hN := hX.1
  obtain ⟨hx, hb, hr, hml, hts, hown, hlocks, hnm⟩ := id C
  have fl_12 := hts (.fieldLink RX5 12 "TwinFinder$Shelf" "here" "Ljava/util/ArrayList;") (by decide +kernel)
  have fl_21 := hts (.fieldLink RX5 21 "TwinFinder$Shelf" "ranked" "Ljava/util/ArrayList;") (by decide +kernel)
  have hin_X5 : ∀ w ∈ u_ws RX5 TX5 4, w ∈ wsX5_othersByNearness := by decide +kernel
  have hl : lv_has ls 5 [(0, .ref s0), (1, .ref bX), (2, .ref e0)] := hl
  have sm : Sm (fun k => k = 19 ∨ 51 ≤ k) ws ws := Sm.rf
  have hc0 : (0 : Nat) ≤ 48 := by decide
  have hs0 : (0 : Nat) ≤ 2352 := by decide
  obtain ⟨g16, hLh, hLs, hLr, hDW, hEd, hNd, hAll, hndl, hRS, h51⟩ := id hSW
  have hHS : ∀ t ∈ HS, t < nd := fun t h9 => hAll t (List.mem_append_left _ h9)
  have hSS : ∀ t ∈ SS, t < nd := fun t h9 => hAll t (List.mem_append_right _ h9)
  have hf0 := fresh_ad hX hD
  have hXl := hHS tX hXm
  refine lv_aload_n hx hb dX5_othersByNearness_0 rfl (lv_at hl 0 rfl) ?_
  refine va_get (D := D) (ci := 6) (v := .ref s3) (C := RX5) (T := TX5) (N := 4) hx hb hts hin_X5 hown hK hP 16 g16 rfl 2 (by decide) fl_21 (fun _ h9 => h9) rfl dX5_othersByNearness_1 ?_
  refine CV.go (va_runV (As := []) (rest := []) ⟨hx, hb, hml, hown, hts⟩ (c_L_clear   hLr (hDW.din hRS) _) (cwV 0 hts gX5_othersByNearness_Jx4a65c_clear_da8c8 rfl rfl rfl (by decide +kernel) ⟨Nat.le_of_ble_eq_true rfl, Nat.le_of_ble_eq_true rfl⟩) ⟨pwx_blind, LW.recv hK hP hLr, fun U hU hW => pwx_pre hX hA hS hK hP hD hU hW⟩ rfl rfl hl.1 rfl (lv_room (Nat.le_of_ble_eq_true rfl)) dX5_othersByNearness_4 ⟨Nat.le_of_ble_eq_true rfl, Nat.le_of_ble_eq_true rfl⟩) hD hS hA (fun ws_2 H locs hp hP hD hS => ?_)
  obtain ⟨hLr2, hel7, smR⟩ := hp
  have g20 := smR.get g20 (nq g20 (by omega) (fun n9 f9 => by simp))
  have g16 := smR.get g16 (nq g16 (by omega) (fun n9 f9 => by simp))
  have sm := sm.call smR (fun k hk => hk.elim (fun h9 => by (try simp only); omega) (fun h9 => by have h8 := h9.1; (try simp only); omega))
  have hLh := hLh.frame smR (by decide) (by decide) (hLh.he hf0 hEd.2.1) (by decide)
  have hLs := hLs.frame smR (by decide) (by decide) (hLs.he hf0 hEd.2.2) (by decide)
  have hDW := hDW.frame smR (by decide)
  have hf0 := fresh_ad hX hD
  have h51 := Nat.le_trans h51 smR.1
  have hLr : LW ws_2 cO ad 19 s3 er (([] : List Nat).map (fun t => (dd t).1.2)) := hLr2
  refine lv_iconst (v := nI 0) hx hb dX5_othersByNearness_7 (by decide) ?_
  refine lv_istore_n (lv' := [(3, .int (nI 0)), (0, .ref s0), (1, .ref bX), (2, .ref e0)]) hx hb dX5_othersByNearness_8 rfl hl (by decide) rfl (fun ls hl => ?_)
  have lp_9 : ∀ (fuel : Nat) (i er1 : Nat), HS.length - i < fuel → (i ≤ HS.length) → (eh = er1 → eh = ad) → (es = er1 → es = ad) → ∀ (ws1 : va_W) (H : Heap) (locs : List Loc) (ls : Array Slot), Sm (fun k => k = 19 ∨ 51 ≤ k) ws ws1 → ws1[20]? = some (e0, .inr (3, [.int (nI bb), .int (nI rr), .int (nI pp), .int (nI qq)])) → ws1[16]? = some (s0, .inr (6, [.ref s1, .ref s2, .ref s3, .int (nI ca)])) → (LW ws1 cO ad 17 s1 eh ((HS).map (fun t => (dd t).1.2))) → (LW ws1 cO ad 18 s2 es ((SS).map (fun t => (dd t).1.2))) → (LW ws1 cO ad 19 s3 er1 ((ordL dd tX (HS.take i)).map (fun t => (dd t).1.2))) → (DW ws1 cI cJ nd dd) → (51 ≤ ws1.length) → (FreshA ws1 ad) → va_P D vwCl ws1 H → va_D A ws1 → va_S A s.heap H locs → lv_has ls 5 [(0, .ref s0), (1, .ref bX), (2, .ref e0), (3, .int (nI i))] → W p l e ({ frames := 6, cells := 48, slots := 2352, locals := 151 }) s m ([.ref s0, .ref bX, .ref e0] : List Value).toArray below meth c H locs (i) (49 * i) (ZQ D (TY cB cI cJ cO) (fun r ws' => ∃ er2 : Nat, r = some (s3) ∧ (ShW ws' cI cJ cO ad s0 s1 s2 s3 ca eh es er2 nd dd HS SS (ordL dd tX HS)) ∧ Sm (fun k => k = 19 ∨ 51 ≤ k) ws ws') below [.ref s0, .ref bX, .ref e0] s 48 2352 A) (F0 m 9 ls []) := by
    intro fuel
    induction fuel with
    | zero => intro i er1 hfu; exact absurd hfu (Nat.not_lt_zero _)
    | succ fuel ih_9 =>
      intro i er1 hfu_9 hi hEd2 hEd3 ws1 H locs ls sm g20 g16 hLh hLs hLr hDW h51 hf0 hP hD hS hl
      refine lv_iload_n hx hb dX5_othersByNearness_9 rfl (lv_at hl 3 rfl) ?_
      refine lv_aload_n hx hb dX5_othersByNearness_10 rfl (lv_at hl 0 rfl) ?_
      refine va_get (D := D) (ci := 6) (v := .ref s1) (C := RX5) (T := TX5) (N := 4) hx hb hts hin_X5 hown hK hP 16 g16 rfl 0 (by decide) fl_12 (fun _ h9 => h9) rfl dX5_othersByNearness_11 ?_
      refine CI.go (va_runV (As := []) (rest := [.int (nI i)]) ⟨hx, hb, hml, hown, hts⟩ (c_L_size   hLh _) (cwV 0 hts gX5_othersByNearness_Jx4a65c_size_8abf5 rfl rfl rfl (by decide +kernel) ⟨Nat.le_of_ble_eq_true rfl, Nat.le_of_ble_eq_true rfl⟩) ⟨pw_blind, LW.recv hK hP hLh, fun U hU hW => pw_pre hK hP hD hU hW⟩ rfl rfl hl.1 rfl (lv_room (Nat.le_of_ble_eq_true rfl)) dX5_othersByNearness_14 ⟨by show i + 0 ≤ 48; omega, by show 49 * i + 0 ≤ 2352; omega⟩) hD hS hA (fun r_3 ws_4 H locs hp hP hD hS => ?_)
      obtain ⟨rfl, rfl⟩ := hp
      rw [List.length_map]
      refine nx_icmp_ge (tgt := 62) hx hb (by omega) (by omega) dX5_othersByNearness_17 (by decide) (fun c_17 => ?_) (fun c_17 => ?_)
      · refine lv_aload_n hx hb dX5_othersByNearness_62 rfl (lv_at hl 0 rfl) ?_
        refine va_get (D := D) (ci := 6) (v := .ref s3) (C := RX5) (T := TX5) (N := 4) hx hb hts hin_X5 hown hK hP 16 g16 rfl 2 (by decide) fl_21 (fun _ h9 => h9) rfl dX5_othersByNearness_63 ?_
        exact CQ.ret (v := some s3) C hK hP hD hS (Or.inl ⟨_, rfl⟩) (⟨er1, rfl, (by have h9 := hLr; rw [List.take_of_length_le (by omega)] at h9; exact ⟨g16, hLh, hLs, h9, hDW, ⟨hEd.1, hEd2, hEd3⟩, hNd, hAll, hndl, fun t ht => hHS t (ord_sub ht), by have h8 := sm.1; omega⟩), sm⟩) (by show i ≤ 48; omega) (by show 49 * i ≤ 2352; omega) dX5_othersByNearness_66
      · have hEd2o := hEd2
        have hEd3o := hEd3
        obtain ⟨tQ, htQ⟩ : ∃ t, HS[i]? = some t := ⟨_, List.getElem?_eq_getElem (by omega)⟩
        have htlQ : tQ < nd := hHS tQ (List.mem_of_getElem? htQ)
        obtain ⟨⟨⟨pQ, aQ⟩, ⟨x1Q, x2Q, x3Q, x4Q⟩, ⟨nuQ, zQ⟩, fsQ, fnQ, flQ, fhQ⟩, hdxQ⟩ : ∃ z : DX, z = dd tQ := ⟨_, rfl⟩
        have hD5Q := (hDW.1 tQ htlQ).1
        have hP51Q : 51 ≤ pQ := by have h9 := (hDW.1 tQ htlQ).2; rw [← hdxQ] at h9; exact h9
        rw [← hdxQ] at hD5Q
        have gpQ : ws1[pQ]? = some (aQ, .inr (1, [.int (nI tQ), .ref x1Q, .ref x2Q, .ref x3Q, .ref x4Q, .int (nI nuQ), .int (nI zQ)])) := hD5Q.1
        have gpQ_1 : ws1[pQ + 1]? = some (x1Q, .inl (cJ, 94, .inr (.inl fsQ))) := hD5Q.2.1
        have gpQ_2 : ws1[pQ + 2]? = some (x2Q, .inl (cI, 800, .inl (fun jj => nI (fnQ jj)))) := hD5Q.2.2.1
        have gpQ_3 : ws1[pQ + 3]? = some (x3Q, .inl (cI, 64, .inl (fun jj => nI (flQ jj)))) := hD5Q.2.2.2.1
        have gpQ_4 : ws1[pQ + 4]? = some (x4Q, .inl (cI, 48, .inl (fun jj => nI (fhQ jj)))) := hD5Q.2.2.2.2
        have hQm := List.mem_of_getElem? htQ
        have hol := ord_len (dd := dd) (x := tX) (L := HS.take i) (R := [])
        rw [List.length_take] at hol
        have hol2 : (ordL dd tX (HS.take i)).length ≤ 0 + min i HS.length := hol
        have hom : ∀ t ∈ (ordL dd tX (HS.take i)), t ∈ HS := fun t h9 => List.mem_of_mem_take (ord_sub h9)
        refine lv_aload_n hx hb dX5_othersByNearness_20 rfl (lv_at hl 0 rfl) ?_
        refine va_get (D := D) (ci := 6) (v := .ref s1) (C := RX5) (T := TX5) (N := 4) hx hb hts hin_X5 hown hK hP 16 g16 rfl 0 (by decide) fl_12 (fun _ h9 => h9) rfl dX5_othersByNearness_21 ?_
        refine lv_iload_n hx hb dX5_othersByNearness_24 rfl (lv_at hl 3 rfl) ?_
        refine CQ.go (va_runV (As := [.int (nI i)]) (rest := []) ⟨hx, hb, hml, hown, hts⟩ (c_L_get (v := aQ)  hLh (map_at htQ (by rw [← hdxQ])) _) (cwV 1 hts gX5_othersByNearness_Jx4a65c_get_915e3 rfl rfl rfl (by decide +kernel) ⟨Nat.le_of_ble_eq_true rfl, Nat.le_of_ble_eq_true rfl⟩) ⟨pw_blind, LW.recv hK hP hLh, fun U hU hW => pw_pre hK hP hD hU hW⟩ rfl rfl hl.1 rfl (lv_room (Nat.le_of_ble_eq_true rfl)) dX5_othersByNearness_25 ⟨by show i + 0 ≤ 48; omega, by show 49 * i + 0 ≤ 2352; omega⟩) hD hS hA (fun r_5 ws_6 H locs hp hP hD hS => ?_)
        obtain ⟨rfl, rfl⟩ := hp
        refine va_castS hx hb hown (hts (.classLink RX5 36 RX0) (by decide +kernel)) (hK.1 1 _ rfl).2 (va_recv hK hP (ci := 1) (q0 := pQ) rfl gpQ) dX5_othersByNearness_28 ?_
        refine lv_astore (lv' := [(4, .ref aQ), (0, .ref s0), (1, .ref bX), (2, .ref e0), (3, .int (nI i))]) hx hb dX5_othersByNearness_31 hl (by decide) rfl (fun ls hl => ?_)
        refine lv_aload hx hb dX5_othersByNearness_33 (lv_at hl 0 rfl) ?_
        refine lv_aload_n hx hb dX5_othersByNearness_35 rfl (lv_at hl 2 rfl) ?_
        refine lv_acmp_eq (rx := some aQ) (ry := some bX) (tgt := 56) hx hb dX5_othersByNearness_36 (by decide) (fun c_36 => ?_) (fun c_36 => ?_)
        · have heq9 : tQ = tX := hDW.inj hD htlQ hXl (by rw [hbX, ← hdxQ]; exact Option.some.inj c_36)
          refine lv_iinc (v := (nI (i + 1))) (lv' := [(3, .int (nI (i + 1))), (4, .ref aQ), (0, .ref s0), (1, .ref bX), (2, .ref e0)]) hx hb dX5_othersByNearness_56 hl (k := 4) rfl (nx_inc _ 1) (by decide) rfl (fun ls hl => ?_)
          refine lv_goto (tgt := 9) hx hb dX5_othersByNearness_59 (by decide) ?_
          refine W.widen (k := (i + 1)) (n := (49 * (i + 1))) (by first | exact Nat.le_refl _ | exact Nat.le_add_right _ _ | omega) (by first | exact Nat.le_refl _ | exact Nat.le_add_right _ _ | omega) ?_
          exact ih_9 (i + 1) er1 (by omega) (by omega) hEd2 hEd3 _ _ _ _ sm g20 g16 hLh hLs (by rw [ord_s htQ, insR, if_pos heq9]; exact hLr) hDW h51 hf0 hP hD hS (lv_sub hl [2, 3, 4, 0] rfl)
        · have hne9 : ¬ tQ = tX := fun e9 => c_36 (by rw [← hbX, ← e9, ← hdxQ])
          refine lv_aload_n hx hb dX5_othersByNearness_39 rfl (lv_at hl 1 rfl) ?_
          refine va_get (D := D) (ci := 6) (v := .ref s3) (C := RX5) (T := TX5) (N := 4) hx hb hts hin_X5 hown hK hP 16 g16 rfl 2 (by decide) fl_21 (fun _ h9 => h9) rfl dX5_othersByNearness_40 ?_
          refine lv_aload_n hx hb dX5_othersByNearness_43 rfl (lv_at hl 1 rfl) ?_
          refine lv_aload hx hb dX5_othersByNearness_44 (lv_at hl 0 rfl) ?_
          refine lv_aload_n hx hb dX5_othersByNearness_46 rfl (lv_at hl 2 rfl) ?_
          refine lv_aload_n hx hb dX5_othersByNearness_47 rfl (lv_at hl 3 rfl) ?_
          refine CI.go (va_runV (As := [.ref aQ, .ref bX, .ref e0]) (rest := [.ref s3]) ⟨hx, hb, hml, hown, hts⟩ (c_X5_rankOf (tO := tQ) (tX := tX) g20 g16 hLr hDW hnd hRow hHS hom hQm hXm (by rw [← hdxQ]) hbX _) (cwV 3 hts gX5_othersByNearness_X5_rankOf rfl rfl rfl (by decide +kernel) ⟨Nat.le_of_ble_eq_true rfl, Nat.le_of_ble_eq_true rfl⟩) ⟨pw_blind, va_recv hK hP (ci := 6) (q0 := 16) rfl g16, fun U hU hW => pw_pre hK hP hD hU hW⟩ rfl rfl hl.1 rfl (lv_room (Nat.le_of_ble_eq_true rfl)) dX5_othersByNearness_48 ⟨by show i + 0 ≤ 48; omega, by show 49 * i + 0 ≤ 2352; omega⟩) hD hS hA (fun r_7 ws_8 H locs hp hP hD hS => ?_)
          obtain ⟨rfl, rfl⟩ := hp
          refine lv_aload hx hb dX5_othersByNearness_51 (lv_at hl 0 rfl) ?_
          refine CV.go (va_runV (As := [.int (nI (rnk (fun k => nrR dd tX tQ (((ordL dd tX (HS.take i))).getD k 0)) ((ordL dd tX (HS.take i))).length)), .ref aQ]) (rest := []) ⟨hx, hb, hml, hown, hts⟩ (c_L_ins   hLr gpQ (by rw [List.length_map]; exact rnk_le _ _) (by rw [List.length_map]; omega) (hDW.din (fun t h9 => hHS t (hom t h9))) (by decide) h51 _) (cwV 2 hts gX5_othersByNearness_Jx4a65c_add_7a177 rfl rfl rfl (by decide +kernel) ⟨Nat.le_of_ble_eq_true rfl, Nat.le_of_ble_eq_true rfl⟩) ⟨pwx_blind, LW.recv hK hP hLr, fun U hU hW => pwx_pre hX hA hS hK hP hD hU hW⟩ rfl rfl hl.1 rfl (lv_room (Nat.le_of_ble_eq_true rfl)) dX5_othersByNearness_53 ⟨by show i + 1 ≤ 48; omega, by show 49 * i + 49 ≤ 2352; omega⟩) hD hS hA (fun ws_10 H locs hp hP hD hS => ?_)
          obtain ⟨er3, hLr2, he2, hel8, smR⟩ := hp
          have g20 := smR.get g20 (nq g20 (by omega) (fun n9 f9 => by simp))
          have g16 := smR.get g16 (nq g16 (by omega) (fun n9 f9 => by simp))
          have gpQ := smR.get gpQ (nq gpQ (by omega) (fun n9 f9 => by simp))
          have gpQ_1 := smR.get gpQ_1 (nq gpQ_1 (by omega) (fun n9 f9 => by simp))
          have gpQ_2 := smR.get gpQ_2 (nq gpQ_2 (by omega) (fun n9 f9 => by simp))
          have gpQ_3 := smR.get gpQ_3 (nq gpQ_3 (by omega) (fun n9 f9 => by simp))
          have gpQ_4 := smR.get gpQ_4 (nq gpQ_4 (by omega) (fun n9 f9 => by simp))
          have sm := sm.call smR (fun k hk => hk.elim (fun h9 => by (try simp only); omega) (fun h9 => by have h8 := h9.1; (try simp only); omega))
          have hEd2 := hLh.ed he2 hEd2
          have hEd3 := hLs.ed he2 hEd3
          have hLh := hLh.frame smR (by decide) (by decide) (hLh.he hf0 hEd2o) (by decide)
          have hLs := hLs.frame smR (by decide) (by decide) (hLs.he hf0 hEd3o) (by decide)
          have hDW := hDW.frame smR (by decide)
          have hf0 := fresh_ad hX hD
          have h51 := Nat.le_trans h51 smR.1
          have hLr : LW ws_10 cO ad 19 s3 er3 ((ordL dd tX (HS.take (i + 1))).map (fun t => (dd t).1.2)) := by rw [ord_s htQ, insR, if_neg hne9, ← map_ins (by rw [← hdxQ])]; exact hLr2
          refine lv_iinc (v := (nI (i + 1))) (lv' := [(3, .int (nI (i + 1))), (4, .ref aQ), (0, .ref s0), (1, .ref bX), (2, .ref e0)]) hx hb dX5_othersByNearness_56 hl (k := 4) rfl (nx_inc _ 1) (by decide) rfl (fun ls hl => ?_)
          refine lv_goto (tgt := 9) hx hb dX5_othersByNearness_59 (by decide) ?_
          refine W.widen (k := (i + 1)) (n := (49 * (i + 1))) (by first | exact Nat.le_refl _ | exact Nat.le_add_right _ _ | omega) (by first | exact Nat.le_refl _ | exact Nat.le_add_right _ _ | omega) ?_
          exact ih_9 (i + 1) er3 (by omega) (by omega) hEd2 hEd3 _ _ _ _ sm g20 g16 hLh hLs hLr hDW h51 hf0 hP hD hS (lv_sub hl [2, 3, 4, 0] rfl)
  refine W.widen (k := 0) (n := (49 * 0)) (by first | exact Nat.le_refl _ | exact Nat.le_add_right _ _ | omega) (by first | exact Nat.le_refl _ | exact Nat.le_add_right _ _ | omega) ?_
  exact lp_9 _ 0 er (Nat.lt_succ_self _) (Nat.zero_le _) hEd.2.1 hEd.2.2 _ _ _ _ sm g20 g16 hLh hLs hLr hDW h51 hf0 hP hD hS (lv_sub hl [1, 2, 3, 0] rfl)
