set_option maxHeartbeats 4000000 in
set_option maxRecDepth 100000 in
theorem c_X1_begin {D : va_G} {cB cI cJ cO : ClassId} {l : Launch} {k0 : Nat} {k1 k4 k7 k8 k9 k10 plc kn : Nat} {k2 k3 k5 k6 sz1 sz2 : Nat} {ad s1 eh nd : Nat} {dd : Nat → DX} {HS : List Nat} {nu tc fa me : Nat → Nat} {ws : va_W} (g21 : ws[21]? = some (k0, .inr (2, [.ref k1, .ref k4, .ref k7, .ref k8, .ref k9, .ref k10, .int (nI plc), .int (nI kn)]))) (g22 : ws[22]? = some (k1, .inr (4, [.ref k2, .ref k3, .int (nI sz1)]))) (g25 : ws[25]? = some (k4, .inr (4, [.ref k5, .ref k6, .int (nI sz2)]))) (g28 : ws[28]? = some (k7, .inl (cI, 48, .inl (fun jj => nI (nu jj))))) (g29 : ws[29]? = some (k8, .inl (cI, 48, .inl (fun jj => nI (tc jj))))) (g30 : ws[30]? = some (k9, .inl (cI, 48, .inl (fun jj => nI (fa jj))))) (g31 : ws[31]? = some (k10, .inl (cI, 48, .inl (fun jj => nI (me jj))))) (hLh : LW ws cO ad 17 s1 eh (HS.map (fun t => (dd t).1.2))) (hDW : DW ws cI cJ nd dd) (hHS : ∀ t ∈ HS, t < nd) (h48 : HS.length ≤ 48) : CV D (TY cB cI cJ cO) l yX1_begin wsX1_begin ({ frames := 3, cells := 0, slots := 0, locals := 64 }) [.ref k0, .ref s1] ws (fun ws' => ∃ nu2 : Nat → Nat, ∃ tc2 : Nat → Nat, ∃ fa2 : Nat → Nat, ∃ me2 : Nat → Nat, (∀ i t, HS[i]? = some t → nu2 i = (dd t).2.2.1.1 ∧ tc2 i = 0 ∧ fa2 i = i ∧ me2 i = 0) ∧ Sm (fun k => k = 21 ∨ k = 22 ∨ k = 25 ∨ k = 28 ∨ k = 29 ∨ k = 30 ∨ k = 31) ws ws' ∧ ws'[21]? = some (k0, .inr (2, [.ref k1, .ref k4, .ref k7, .ref k8, .ref k9, .ref k10, .int (nI (HS.length)), .int (nI kn)])) ∧ ws'[22]? = some (k1, .inr (4, [.ref k2, .ref k3, .int (nI 0)])) ∧ ws'[25]? = some (k4, .inr (4, [.ref k5, .ref k6, .int (nI 0)])) ∧ ws'[28]? = some (k7, .inl (cI, 48, .inl (fun jj => nI (nu2 jj)))) ∧ ws'[29]? = some (k8, .inl (cI, 48, .inl (fun jj => nI (tc2 jj)))) ∧ ws'[30]? = some (k9, .inl (cI, 48, .inl (fun jj => nI (fa2 jj)))) ∧ ws'[31]? = some (k10, .inl (cI, 48, .inl (fun jj => nI (me2 jj))))) := by
  refine CV.of (cc := cX1_begin) (maxL := 3) (ret := none) (by decide) rfl (Nat.le_of_ble_eq_true rfl) ?_
  intro p e s m below meth c A C hK hP hD hA hS ls hl
  obtain ⟨hx, hb, hr, hml, hts, hown, hlocks, hnm⟩ := id C
  have fl_12 := hts (.fieldLink RX1 12 "TwinFinder$Kin" "candidates" "LTwinFinder$PairRow;") (by decide +kernel)
  have fl_18 := hts (.fieldLink RX1 18 "TwinFinder$Kin" "twins" "LTwinFinder$PairRow;") (by decide +kernel)
  have fl_21 := hts (.fieldLink RX1 21 "TwinFinder$Kin" "number" "[I") (by decide +kernel)
  have fl_25 := hts (.fieldLink RX1 25 "TwinFinder$Kin" "twinCount" "[I") (by decide +kernel)
  have fl_28 := hts (.fieldLink RX1 28 "TwinFinder$Kin" "leader" "[I") (by decide +kernel)
  have fl_31 := hts (.fieldLink RX1 31 "TwinFinder$Kin" "members" "[I") (by decide +kernel)
  have fl_42 := hts (.fieldLink RX1 42 "TwinFinder$Kin" "places" "I") (by decide +kernel)
  have fl_68 := hts (.fieldLink RX1 68 "TwinFinder$PairRow" "size" "I") (by decide +kernel)
  have fl_70 := hts (.fieldLink RX1 70 "TwinFinder$Document" "number" "I") (by decide +kernel)
  have hin_X0 : ∀ w ∈ u_ws RX0 TX0 7, w ∈ wsX1_begin := by decide +kernel
  have hin_X1 : ∀ w ∈ u_ws RX1 TX1 8, w ∈ wsX1_begin := by decide +kernel
  have hin_X3 : ∀ w ∈ u_ws RX3 TX3 3, w ∈ wsX1_begin := by decide +kernel
  have hl : lv_has ls 3 [(0, .ref k0), (1, .ref s1)] := hl
  have sm : Sm (fun k => k = 21 ∨ k = 22 ∨ k = 25 ∨ k = 28 ∨ k = 29 ∨ k = 30 ∨ k = 31) ws ws := Sm.rf
  have hc0 : (0 : Nat) ≤ 0 := by decide
  have hs0 : (0 : Nat) ≤ 0 := by decide
  refine lv_aload_n hx hb dX1_begin_0 rfl (lv_at hl 0 rfl) ?_
  refine lv_aload_n hx hb dX1_begin_1 rfl (lv_at hl 1 rfl) ?_
  refine CI.go (va_runV (As := []) (rest := [.ref k0]) ⟨hx, hb, hml, hown, hts⟩ (c_L_size   hLh _) (cwV 0 hts gX1_begin_Jx4a65c_size_8abf5 rfl rfl rfl (by decide +kernel) ⟨Nat.le_of_ble_eq_true rfl, Nat.le_of_ble_eq_true rfl⟩) ⟨pw_blind, LW.recv hK hP hLh, fun U hU hW => pw_pre hK hP hD hU hW⟩ rfl rfl hl.1 rfl (lv_room (Nat.le_of_ble_eq_true rfl)) dX1_begin_2 ⟨Nat.le_of_ble_eq_true rfl, Nat.le_of_ble_eq_true rfl⟩) hD hS hA (fun r_1 ws_2 H locs hp hP hD hS => ?_)
  obtain ⟨rfl, rfl⟩ := hp
  rw [List.length_map]
  refine lv_bipush (v := nI 48) hx hb dX1_begin_5 (by decide) ?_
  refine va_mmin hx hb (hml.trans hl.1.symm) hown (hts (.methodLink RX1 62 Lib.Math.min.name) (by decide +kernel)) (hts (.static Lib.Math.min.name) (by decide +kernel)) (hts (.initialized "java/lang/Math") (by decide +kernel)) (hts (.code Lib.Math.min.name Lib.Math.min.code 2 (some .int)) (by decide +kernel)) (Nat.le_of_ble_eq_true rfl) (Nat.le_of_ble_eq_true rfl) (Nat.le_of_ble_eq_true rfl) (Nat.le_of_ble_eq_true rfl) dX1_begin_7 ?_
  rw [nI_min (by omega) (by decide)]
  rw [Nat.min_eq_left h48]
  refine nx_put (D := D) (ci := 2) (v := .int (nI (HS.length))) (ty := .int) (C := RX1) (T := TX1) (N := 8) hx hb hts hin_X1 tyX1 tyX1_ok nmX1 hown hK hP hD hS 21 g21 rfl 6 (by decide) fl_42 (fun _ h9 => h9) rfl (by decide +kernel) rfl rfl (Nat.le_of_ble_eq_true rfl) dX1_begin_10 (fun ws_3 H locs gq up_4 hP hD hS => ?_)
  have go_21 := g21
  have g21 : ws_3[21]? = some (k0, .inr (2, [.ref k1, .ref k4, .ref k7, .ref k8, .ref k9, .ref k10, .int (nI (HS.length)), .int (nI kn)])) := gq
  have g22 := up_4.get g22 (by decide)
  have g25 := up_4.get g25 (by decide)
  have g28 := up_4.get g28 (by decide)
  have g29 := up_4.get g29 (by decide)
  have g30 := up_4.get g30 (by decide)
  have g31 := up_4.get g31 (by decide)
  have hLh := hLh.up up_4 (fun y9 z9 h9 => by rw [go_21] at h9; cases h9; trivial)
  have hDW := hDW.up0 up_4 (by decide)
  have sm := sm.up up_4 (by simp)
  refine lv_aload_n hx hb dX1_begin_13 rfl (lv_at hl 0 rfl) ?_
  refine va_get (D := D) (ci := 2) (v := .ref k1) (C := RX1) (T := TX1) (N := 8) hx hb hts hin_X1 hown hK hP 21 g21 rfl 0 (by decide) fl_12 (fun _ h9 => h9) rfl dX1_begin_14 ?_
  refine lv_iconst (v := nI 0) hx hb dX1_begin_17 (by decide) ?_
  refine nx_put (D := D) (ci := 4) (v := .int (nI 0)) (ty := .int) (C := RX3) (T := TX3) (N := 3) hx hb hts hin_X3 tyX3 tyX3_ok nmX3 hown hK hP hD hS 22 g22 rfl 2 (by decide) fl_68 (fun _ h9 => h9) rfl (by decide +kernel) rfl rfl (Nat.le_of_ble_eq_true rfl) dX1_begin_18 (fun ws_5 H locs gq up_6 hP hD hS => ?_)
  have go_22 := g22
  have g22 : ws_5[22]? = some (k1, .inr (4, [.ref k2, .ref k3, .int (nI 0)])) := gq
  have g21 := up_6.get g21 (by decide)
  have g25 := up_6.get g25 (by decide)
  have g28 := up_6.get g28 (by decide)
  have g29 := up_6.get g29 (by decide)
  have g30 := up_6.get g30 (by decide)
  have g31 := up_6.get g31 (by decide)
  have hLh := hLh.up up_6 (fun y9 z9 h9 => by rw [go_22] at h9; cases h9; trivial)
  have hDW := hDW.up0 up_6 (by decide)
  have sm := sm.up up_6 (by simp)
  refine lv_aload_n hx hb dX1_begin_21 rfl (lv_at hl 0 rfl) ?_
  refine va_get (D := D) (ci := 2) (v := .ref k4) (C := RX1) (T := TX1) (N := 8) hx hb hts hin_X1 hown hK hP 21 g21 rfl 1 (by decide) fl_18 (fun _ h9 => h9) rfl dX1_begin_22 ?_
  refine lv_iconst (v := nI 0) hx hb dX1_begin_25 (by decide) ?_
  refine nx_put (D := D) (ci := 4) (v := .int (nI 0)) (ty := .int) (C := RX3) (T := TX3) (N := 3) hx hb hts hin_X3 tyX3 tyX3_ok nmX3 hown hK hP hD hS 25 g25 rfl 2 (by decide) fl_68 (fun _ h9 => h9) rfl (by decide +kernel) rfl rfl (Nat.le_of_ble_eq_true rfl) dX1_begin_26 (fun ws_7 H locs gq up_8 hP hD hS => ?_)
  have go_25 := g25
  have g25 : ws_7[25]? = some (k4, .inr (4, [.ref k5, .ref k6, .int (nI 0)])) := gq
  have g21 := up_8.get g21 (by decide)
  have g22 := up_8.get g22 (by decide)
  have g28 := up_8.get g28 (by decide)
  have g29 := up_8.get g29 (by decide)
  have g30 := up_8.get g30 (by decide)
  have g31 := up_8.get g31 (by decide)
  have hLh := hLh.up up_8 (fun y9 z9 h9 => by rw [go_25] at h9; cases h9; trivial)
  have hDW := hDW.up0 up_8 (by decide)
  have sm := sm.up up_8 (by simp)
  refine lv_iconst (v := nI 0) hx hb dX1_begin_29 (by decide) ?_
  refine lv_istore_n (lv' := [(2, .int (nI 0)), (0, .ref k0), (1, .ref s1)]) hx hb dX1_begin_30 rfl hl (by decide) rfl (fun ls hl => ?_)
  have lp_31 : ∀ (fuel : Nat) (i : Nat) (nu1 tc1 fa1 me1 : Nat → Nat), HS.length - i < fuel → (i ≤ HS.length) → (∀ k t, k < i → HS[k]? = some t → nu1 k = (dd t).2.2.1.1 ∧ tc1 k = 0 ∧ fa1 k = k ∧ me1 k = 0) → ∀ (ws1 : va_W) (H : Heap) (locs : List Loc) (ls : Array Slot), Sm (fun k => k = 21 ∨ k = 22 ∨ k = 25 ∨ k = 28 ∨ k = 29 ∨ k = 30 ∨ k = 31) ws ws1 → ws1[21]? = some (k0, .inr (2, [.ref k1, .ref k4, .ref k7, .ref k8, .ref k9, .ref k10, .int (nI (HS.length)), .int (nI kn)])) → ws1[22]? = some (k1, .inr (4, [.ref k2, .ref k3, .int (nI 0)])) → ws1[25]? = some (k4, .inr (4, [.ref k5, .ref k6, .int (nI 0)])) → ws1[28]? = some (k7, .inl (cI, 48, .inl (fun jj => nI (nu1 jj)))) → ws1[29]? = some (k8, .inl (cI, 48, .inl (fun jj => nI (tc1 jj)))) → ws1[30]? = some (k9, .inl (cI, 48, .inl (fun jj => nI (fa1 jj)))) → ws1[31]? = some (k10, .inl (cI, 48, .inl (fun jj => nI (me1 jj)))) → (LW ws1 cO ad 17 s1 eh (HS.map (fun t => (dd t).1.2))) → (DW ws1 cI cJ nd dd) → va_P D vwCl ws1 H → va_D A ws1 → va_S A s.heap H locs → lv_has ls 3 [(0, .ref k0), (1, .ref s1), (2, .int (nI i))] → W p l e ({ frames := 3, cells := 0, slots := 0, locals := 64 }) s m ([.ref k0, .ref s1] : List Value).toArray below meth c H locs 0 0 (ZV D (TY cB cI cJ cO) (fun ws' => ∃ nu2 : Nat → Nat, ∃ tc2 : Nat → Nat, ∃ fa2 : Nat → Nat, ∃ me2 : Nat → Nat, (∀ i t, HS[i]? = some t → nu2 i = (dd t).2.2.1.1 ∧ tc2 i = 0 ∧ fa2 i = i ∧ me2 i = 0) ∧ Sm (fun k => k = 21 ∨ k = 22 ∨ k = 25 ∨ k = 28 ∨ k = 29 ∨ k = 30 ∨ k = 31) ws ws' ∧ ws'[21]? = some (k0, .inr (2, [.ref k1, .ref k4, .ref k7, .ref k8, .ref k9, .ref k10, .int (nI (HS.length)), .int (nI kn)])) ∧ ws'[22]? = some (k1, .inr (4, [.ref k2, .ref k3, .int (nI 0)])) ∧ ws'[25]? = some (k4, .inr (4, [.ref k5, .ref k6, .int (nI 0)])) ∧ ws'[28]? = some (k7, .inl (cI, 48, .inl (fun jj => nI (nu2 jj)))) ∧ ws'[29]? = some (k8, .inl (cI, 48, .inl (fun jj => nI (tc2 jj)))) ∧ ws'[30]? = some (k9, .inl (cI, 48, .inl (fun jj => nI (fa2 jj)))) ∧ ws'[31]? = some (k10, .inl (cI, 48, .inl (fun jj => nI (me2 jj))))) below [.ref k0, .ref s1] s 0 0 A) (F0 m 31 ls []) := by
    intro fuel
    induction fuel with
    | zero => intro i nu1 tc1 fa1 me1 hfu; exact absurd hfu (Nat.not_lt_zero _)
    | succ fuel ih_31 =>
      intro i nu1 tc1 fa1 me1 hfu_31 hi hb1 ws1 H locs ls sm g21 g22 g25 g28 g29 g30 g31 hLh hDW hP hD hS hl
      refine lv_iload_n hx hb dX1_begin_31 rfl (lv_at hl 2 rfl) ?_
      refine lv_aload_n hx hb dX1_begin_32 rfl (lv_at hl 0 rfl) ?_
      refine va_get (D := D) (ci := 2) (v := .int (nI (HS.length))) (C := RX1) (T := TX1) (N := 8) hx hb hts hin_X1 hown hK hP 21 g21 rfl 6 (by decide) fl_42 (fun _ h9 => h9) rfl dX1_begin_33 ?_
      refine nx_icmp_ge (tgt := 83) hx hb (by omega) (by omega) dX1_begin_36 (by decide) (fun c_36 => ?_) (fun c_36 => ?_)
      · exact CV.ret C hK hP hD hS (⟨_, _, _, _, (fun k t ht => hb1 k t (by have := (List.getElem?_eq_some_iff.mp ht).1; omega) ht), sm, g21, g22, g25, g28, g29, g30, g31⟩) hc0 hs0 dX1_begin_83
      · obtain ⟨tQ, htQ⟩ : ∃ t, HS[i]? = some t := ⟨_, List.getElem?_eq_getElem (by omega)⟩
        have htlQ : tQ < nd := hHS tQ (List.mem_of_getElem? htQ)
        obtain ⟨⟨⟨pQ, aQ⟩, ⟨x1Q, x2Q, x3Q, x4Q⟩, ⟨nuQ, zQ⟩, fsQ, fnQ, flQ, fhQ⟩, hdxQ⟩ : ∃ z : DX, z = dd tQ := ⟨_, rfl⟩
        have hD5Q := (hDW.1 tQ htlQ).1
        have hP51Q : 51 ≤ pQ := by have h9 := (hDW.1 tQ htlQ).2; rw [← hdxQ] at h9; exact h9
        rw [← hdxQ] at hD5Q
        have gpQ : ws1[pQ]? = some (aQ, .inr (1, [.int (nI tQ), .ref x1Q, .ref x2Q, .ref x3Q, .ref x4Q, .int (nI nuQ), .int (nI zQ)])) := hD5Q.1
        have gpQ_1 : ws1[pQ + 1]? = some (x1Q, .inl (cJ, 94, .inr (.inl fsQ))) := hD5Q.2.1
        have gpQ_2 : ws1[pQ + 2]? = some (x2Q, .inl (cI, 800, .inl (fun jj => nI (fnQ jj)))) := hD5Q.2.2.1
        have gpQ_3 : ws1[pQ + 3]? = some (x3Q, .inl (cI, 64, .inl (fun jj => nI (flQ jj)))) := hD5Q.2.2.2.1
        have gpQ_4 : ws1[pQ + 4]? = some (x4Q, .inl (cI, 48, .inl (fun jj => nI (fhQ jj)))) := hD5Q.2.2.2.2
        refine lv_aload_n hx hb dX1_begin_39 rfl (lv_at hl 0 rfl) ?_
        refine va_get (D := D) (ci := 2) (v := .ref k7) (C := RX1) (T := TX1) (N := 8) hx hb hts hin_X1 hown hK hP 21 g21 rfl 2 (by decide) fl_21 (fun _ h9 => h9) rfl dX1_begin_40 ?_
        refine lv_iload_n hx hb dX1_begin_43 rfl (lv_at hl 2 rfl) ?_
        refine lv_aload_n hx hb dX1_begin_44 rfl (lv_at hl 1 rfl) ?_
        refine lv_iload_n hx hb dX1_begin_45 rfl (lv_at hl 2 rfl) ?_
        refine CQ.go (va_runV (As := [.int (nI i)]) (rest := [.int (nI i), .ref k7]) ⟨hx, hb, hml, hown, hts⟩ (c_L_get (v := aQ)  hLh (map_at htQ (by rw [← hdxQ])) _) (cwV 1 hts gX1_begin_Jx4a65c_get_915e3 rfl rfl rfl (by decide +kernel) ⟨Nat.le_of_ble_eq_true rfl, Nat.le_of_ble_eq_true rfl⟩) ⟨pw_blind, LW.recv hK hP hLh, fun U hU hW => pw_pre hK hP hD hU hW⟩ rfl rfl hl.1 rfl (lv_room (Nat.le_of_ble_eq_true rfl)) dX1_begin_46 ⟨Nat.le_of_ble_eq_true rfl, Nat.le_of_ble_eq_true rfl⟩) hD hS hA (fun r_9 ws_10 H locs hp hP hD hS => ?_)
        obtain ⟨rfl, rfl⟩ := hp
        refine va_castS hx hb hown (hts (.classLink RX1 52 RX0) (by decide +kernel)) (hK.1 1 _ rfl).2 (va_recv hK hP (ci := 1) (q0 := pQ) rfl gpQ) dX1_begin_49 ?_
        refine va_get (D := D) (ci := 1) (v := .int (nI nuQ)) (C := RX0) (T := TX0) (N := 7) hx hb hts hin_X0 hown hK hP pQ gpQ rfl 5 (by decide) fl_70 (fun _ h9 => h9) rfl dX1_begin_52 ?_
        refine nx_iastN hx hb hK hP hD hS 28 1 g28 rfl (k := i) (by omega) (by decide) dX1_begin_55 (fun ws_11 H locs gq up_12 hP hD hS => ?_)
        have go_28 := g28
        have g28 : ws_11[28]? = some (k7, .inl (cI, 48, .inl (fun jj => nI ((va_up nu1 i nuQ) jj)))) := gq
        have g21 := up_12.get g21 (by decide)
        have g22 := up_12.get g22 (by decide)
        have g25 := up_12.get g25 (by decide)
        have g29 := up_12.get g29 (by decide)
        have g30 := up_12.get g30 (by decide)
        have g31 := up_12.get g31 (by decide)
        have gpQ := up_12.get gpQ (by omega)
        have gpQ_1 := up_12.get gpQ_1 (by omega)
        have gpQ_2 := up_12.get gpQ_2 (by omega)
        have gpQ_3 := up_12.get gpQ_3 (by omega)
        have gpQ_4 := up_12.get gpQ_4 (by omega)
        have hLh := hLh.up up_12 (fun y9 z9 h9 => by rw [go_28] at h9; cases h9; trivial)
        have hDW := hDW.up0 up_12 (by decide)
        have sm := sm.up up_12 (by simp)
        refine lv_aload_n hx hb dX1_begin_56 rfl (lv_at hl 0 rfl) ?_
        refine va_get (D := D) (ci := 2) (v := .ref k8) (C := RX1) (T := TX1) (N := 8) hx hb hts hin_X1 hown hK hP 21 g21 rfl 3 (by decide) fl_25 (fun _ h9 => h9) rfl dX1_begin_57 ?_
        refine lv_iload_n hx hb dX1_begin_60 rfl (lv_at hl 2 rfl) ?_
        refine lv_iconst (v := nI 0) hx hb dX1_begin_61 (by decide) ?_
        refine nx_iastN hx hb hK hP hD hS 29 1 g29 rfl (k := i) (by omega) (by decide) dX1_begin_62 (fun ws_13 H locs gq up_14 hP hD hS => ?_)
        have go_29 := g29
        have g29 : ws_13[29]? = some (k8, .inl (cI, 48, .inl (fun jj => nI ((va_up tc1 i 0) jj)))) := gq
        have g21 := up_14.get g21 (by decide)
        have g22 := up_14.get g22 (by decide)
        have g25 := up_14.get g25 (by decide)
        have g28 := up_14.get g28 (by decide)
        have g30 := up_14.get g30 (by decide)
        have g31 := up_14.get g31 (by decide)
        have gpQ := up_14.get gpQ (by omega)
        have gpQ_1 := up_14.get gpQ_1 (by omega)
        have gpQ_2 := up_14.get gpQ_2 (by omega)
        have gpQ_3 := up_14.get gpQ_3 (by omega)
        have gpQ_4 := up_14.get gpQ_4 (by omega)
        have hLh := hLh.up up_14 (fun y9 z9 h9 => by rw [go_29] at h9; cases h9; trivial)
        have hDW := hDW.up0 up_14 (by decide)
        have sm := sm.up up_14 (by simp)
        refine lv_aload_n hx hb dX1_begin_63 rfl (lv_at hl 0 rfl) ?_
        refine va_get (D := D) (ci := 2) (v := .ref k9) (C := RX1) (T := TX1) (N := 8) hx hb hts hin_X1 hown hK hP 21 g21 rfl 4 (by decide) fl_28 (fun _ h9 => h9) rfl dX1_begin_64 ?_
        refine lv_iload_n hx hb dX1_begin_67 rfl (lv_at hl 2 rfl) ?_
        refine lv_iload_n hx hb dX1_begin_68 rfl (lv_at hl 2 rfl) ?_
        refine nx_iastN hx hb hK hP hD hS 30 1 g30 rfl (k := i) (by omega) (by decide) dX1_begin_69 (fun ws_15 H locs gq up_16 hP hD hS => ?_)
        have go_30 := g30
        have g30 : ws_15[30]? = some (k9, .inl (cI, 48, .inl (fun jj => nI ((va_up fa1 i i) jj)))) := gq
        have g21 := up_16.get g21 (by decide)
        have g22 := up_16.get g22 (by decide)
        have g25 := up_16.get g25 (by decide)
        have g28 := up_16.get g28 (by decide)
        have g29 := up_16.get g29 (by decide)
        have g31 := up_16.get g31 (by decide)
        have gpQ := up_16.get gpQ (by omega)
        have gpQ_1 := up_16.get gpQ_1 (by omega)
        have gpQ_2 := up_16.get gpQ_2 (by omega)
        have gpQ_3 := up_16.get gpQ_3 (by omega)
        have gpQ_4 := up_16.get gpQ_4 (by omega)
        have hLh := hLh.up up_16 (fun y9 z9 h9 => by rw [go_30] at h9; cases h9; trivial)
        have hDW := hDW.up0 up_16 (by decide)
        have sm := sm.up up_16 (by simp)
        refine lv_aload_n hx hb dX1_begin_70 rfl (lv_at hl 0 rfl) ?_
        refine va_get (D := D) (ci := 2) (v := .ref k10) (C := RX1) (T := TX1) (N := 8) hx hb hts hin_X1 hown hK hP 21 g21 rfl 5 (by decide) fl_31 (fun _ h9 => h9) rfl dX1_begin_71 ?_
        refine lv_iload_n hx hb dX1_begin_74 rfl (lv_at hl 2 rfl) ?_
        refine lv_iconst (v := nI 0) hx hb dX1_begin_75 (by decide) ?_
        refine nx_iastN hx hb hK hP hD hS 31 1 g31 rfl (k := i) (by omega) (by decide) dX1_begin_76 (fun ws_17 H locs gq up_18 hP hD hS => ?_)
        have go_31 := g31
        have g31 : ws_17[31]? = some (k10, .inl (cI, 48, .inl (fun jj => nI ((va_up me1 i 0) jj)))) := gq
        have g21 := up_18.get g21 (by decide)
        have g22 := up_18.get g22 (by decide)
        have g25 := up_18.get g25 (by decide)
        have g28 := up_18.get g28 (by decide)
        have g29 := up_18.get g29 (by decide)
        have g30 := up_18.get g30 (by decide)
        have gpQ := up_18.get gpQ (by omega)
        have gpQ_1 := up_18.get gpQ_1 (by omega)
        have gpQ_2 := up_18.get gpQ_2 (by omega)
        have gpQ_3 := up_18.get gpQ_3 (by omega)
        have gpQ_4 := up_18.get gpQ_4 (by omega)
        have hLh := hLh.up up_18 (fun y9 z9 h9 => by rw [go_31] at h9; cases h9; trivial)
        have hDW := hDW.up0 up_18 (by decide)
        have sm := sm.up up_18 (by simp)
        refine lv_iinc (v := (nI (i + 1))) (lv' := [(2, .int (nI (i + 1))), (0, .ref k0), (1, .ref s1)]) hx hb dX1_begin_77 hl (k := 2) rfl (nx_inc _ 1) (by decide) rfl (fun ls hl => ?_)
        refine lv_goto (tgt := 31) hx hb dX1_begin_80 (by decide) ?_
        exact ih_31 (i + 1) _ _ _ _ (by omega) (by omega) (fun k t hk ht => (Nat.lt_or_eq_of_le (Nat.le_of_lt_succ hk)).elim (fun h9 => by rw [va_up_ne _ _ (by omega), va_up_ne _ _ (by omega), va_up_ne _ _ (by omega), va_up_ne _ _ (by omega)]; exact hb1 k t h9 ht) (fun h9 => by subst h9; rw [va_up_self, va_up_self, va_up_self, va_up_self, show t = tQ from Option.some.inj (ht.symm.trans htQ), ← hdxQ]; exact ⟨rfl, rfl, rfl, rfl⟩)) _ _ _ _ sm g21 g22 g25 g28 g29 g30 g31 hLh hDW hP hD hS (lv_sub hl [1, 2, 0] rfl)
  exact lp_31 _ 0 _ _ _ _ (Nat.lt_succ_self _) (Nat.zero_le _) (fun k t hk => absurd hk (Nat.not_lt_zero k)) _ _ _ _ sm g21 g22 g25 g28 g29 g30 g31 hLh hDW hP hD hS (lv_sub hl [1, 2, 0] rfl)
