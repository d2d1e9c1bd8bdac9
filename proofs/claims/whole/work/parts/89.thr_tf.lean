set_option maxHeartbeats 4000000 in
set_option maxRecDepth 100000 in
theorem c_X8_mode {D : va_G} {cB cI cJ cO : ClassId} {l : Launch} {ad mi : Nat} {z0 a1 t0 d0 e0 k0 al so wi : Nat} {t1 t2 t3 t4 nm : Nat} {lf : Nat → Int32} {bf sf se : Nat → Nat} {sh : List (List Int32)} {k1 k4 k7 k8 k9 k10 plc kn : Nat} {s0 s1 s2 s3 ca eh es er nd : Nat} {dd : Nat → DX} {HS SS RS : List Nat} {v q : Int32} {ws : va_W} (g0 : ws[0]? = some (z0, .inr (9, [.ref a1, .ref t0, .ref d0, .ref s0, .ref e0, .ref k0, .ref al, .int (nI so), .int (nI wi)]))) (g5 : ws[5]? = some (t0, .inr (7, [.ref t1, .ref t2, .ref t3, .ref t4, .int (nI nm)]))) (g6 : ws[6]? = some (t1, .inl (cB, 50000, .inl lf))) (g7 : ws[7]? = some (t2, .inl (cI, 6001, .inl (fun jj => nI (bf jj))))) (g8 : ws[8]? = some (t3, .inl (cI, 6000, .inl (fun jj => nI (sf jj))))) (g9 : ws[9]? = some (t4, .inl (cI, 16384, .inl (fun jj => nI (se jj))))) (g21 : ws[21]? = some (k0, .inr (2, [.ref k1, .ref k4, .ref k7, .ref k8, .ref k9, .ref k10, .int (nI plc), .int (nI kn)]))) (hst : StC sh lf bf sf se) (hsn : sh.length = nm) (hn6 : nm ≤ 6000) (hby : sh.flatten.length ≤ 50000) (hSW : ShW ws cI cJ cO ad s0 s1 s2 s3 ca eh es er nd dd HS SS RS) (hnd : nd ≤ 48) (hlt : l.stackTraces = false) : CIT TXT D (TY cB cI cJ cO) l yX8_mode wsX8_mode ({ frames := 10, cells := 49, slots := 2358, locals := 300 }) ad mi [.ref z0, .int v, .int q] ws (fun r ws' => ∃ v1 : Nat, ∃ q1 : Nat, ∃ se2 : Nat → Nat, ∃ es2 : Nat, r = nI (HS.length) ∧ (v = nI v1 ∧ v1 ≤ 1) ∧ (q = nI q1 ∧ 1 ≤ q1 ∧ q1 ≤ 9) ∧ (StC ([] : List (List Int32)) lf bf sf se2) ∧ (ShW ws' cI cJ cO ad s0 s1 s2 s3 0 eh es2 er nd dd [] (SS ++ HS) RS) ∧ Sm (fun k => k = 0 ∨ k = 5 ∨ k = 9 ∨ k = 21 ∨ k = 16 ∨ k = 17 ∨ k = 18 ∨ 51 ≤ k) ws ws' ∧ ws'[0]? = some (z0, .inr (9, [.ref a1, .ref t0, .ref d0, .ref s0, .ref e0, .ref k0, .ref al, .int (nI v1), .int (nI q1)])) ∧ ws'[5]? = some (t0, .inr (7, [.ref t1, .ref t2, .ref t3, .ref t4, .int (nI 0)])) ∧ ws'[9]? = some (t4, .inl (cI, 16384, .inl (fun jj => nI (se2 jj)))) ∧ ws'[21]? = some (k0, .inr (2, [.ref k1, .ref k4, .ref k7, .ref k8, .ref k9, .ref k10, .int (nI plc), .int (nI 0)]))) (fun E ws' => E = IAE ∧ ws = ws' ∧ ¬ (¬ v < 0 ∧ ¬ nI 1 < v ∧ ¬ q < nI 1 ∧ q ≤ nI 9)) := by
  refine CIT.of (cc := cX8_mode) (maxL := 3) (ret := (some .int)) (by decide) rfl (Nat.le_of_ble_eq_true rfl) ?_
  intro p e s m below meth c A C hto hK hP hD hA hS hXT ls hl
  have hX := hXT.1
  have hN := hX.1
  obtain ⟨hx, hb, hr, hml, hts, hown, hlocks, hnm⟩ := id C
  have fl_19 := hts (.fieldLink RX8 19 "TwinFinder" "store" "LTwinFinder$Store;") (by decide +kernel)
  have fl_33 := hts (.fieldLink RX8 33 "TwinFinder" "shelf" "LTwinFinder$Shelf;") (by decide +kernel)
  have fl_47 := hts (.fieldLink RX8 47 "TwinFinder" "kin" "LTwinFinder$Kin;") (by decide +kernel)
  have fl_55 := hts (.fieldLink RX8 55 "TwinFinder" "sortAtHand" "I") (by decide +kernel)
  have fl_59 := hts (.fieldLink RX8 59 "TwinFinder" "rowAtHand" "I") (by decide +kernel)
  have fl_115 := hts (.fieldLink RX8 115 "TwinFinder$Kin" "known" "Z") (by decide +kernel)
  have hin_X1 : ∀ w ∈ u_ws RX1 TX1 8, w ∈ wsX8_mode := by decide +kernel
  have hin_X8 : ∀ w ∈ u_ws RX8 TX8 9, w ∈ wsX8_mode := by decide +kernel
  have hl : lv_has ls 3 [(0, .ref z0), (1, .int v), (2, .int q)] := hl
  have sm : Sm (fun k => k = 0 ∨ k = 5 ∨ k = 9 ∨ k = 21 ∨ k = 16 ∨ k = 17 ∨ k = 18 ∨ 51 ≤ k) ws ws := Sm.rf
  have hc0 : (0 : Nat) ≤ 49 := by decide
  have hs0 : (0 : Nat) ≤ 2358 := by decide
  have g16 := hSW.1
  refine lv_iload_n hx hb dX8_mode_0 rfl (lv_at hl 1 rfl) ?_
  refine lv_if_lt (tgt := 20) hx hb dX8_mode_1 (by decide) (fun c_1 => ?_) (fun c_1 => ?_)
  · exact vt_thrS (text := "there is no such mode") C hto hlt hXT hK hP hD hS hl.1 (by decide +kernel) (by decide +kernel) (by decide +kernel) (by decide +kernel) (fun w hw => List.mem_cons_of_mem _ (List.mem_append_right _ hw)) vtI_m vtI_g dX8_mode_20 dX8_mode_23 dX8_mode_24 dX8_mode_26 dX8_mode_29 ⟨rfl, rfl, fun h => by first | exact h.1 c_1 | exact h.2.1 c_6 | exact h.2.2.1 c_11 | exact c_17 h.2.2.2 | exact absurd h.2.2.2 (Int32.not_le.mpr c_17)⟩ (Nat.le_of_ble_eq_true rfl) (Nat.le_of_ble_eq_true rfl) (Nat.le_of_ble_eq_true rfl) (Nat.le_of_ble_eq_true rfl) (Nat.le_of_ble_eq_true rfl) (Nat.le_of_ble_eq_true rfl)
  · refine lv_iload_n hx hb dX8_mode_4 rfl (lv_at hl 1 rfl) ?_
    refine lv_iconst (v := nI 1) hx hb dX8_mode_5 (by decide) ?_
    refine lv_icmp_gt (tgt := 20) hx hb dX8_mode_6 (by decide) (fun c_6 => ?_) (fun c_6 => ?_)
    · exact vt_thrS (text := "there is no such mode") C hto hlt hXT hK hP hD hS hl.1 (by decide +kernel) (by decide +kernel) (by decide +kernel) (by decide +kernel) (fun w hw => List.mem_cons_of_mem _ (List.mem_append_right _ hw)) vtI_m vtI_g dX8_mode_20 dX8_mode_23 dX8_mode_24 dX8_mode_26 dX8_mode_29 ⟨rfl, rfl, fun h => by first | exact h.1 c_1 | exact h.2.1 c_6 | exact h.2.2.1 c_11 | exact c_17 h.2.2.2 | exact absurd h.2.2.2 (Int32.not_le.mpr c_17)⟩ (Nat.le_of_ble_eq_true rfl) (Nat.le_of_ble_eq_true rfl) (Nat.le_of_ble_eq_true rfl) (Nat.le_of_ble_eq_true rfl) (Nat.le_of_ble_eq_true rfl) (Nat.le_of_ble_eq_true rfl)
    · refine lv_iload_n hx hb dX8_mode_9 rfl (lv_at hl 2 rfl) ?_
      refine lv_iconst (v := nI 1) hx hb dX8_mode_10 (by decide) ?_
      refine lv_icmp_lt (tgt := 20) hx hb dX8_mode_11 (by decide) (fun c_11 => ?_) (fun c_11 => ?_)
      · exact vt_thrS (text := "there is no such mode") C hto hlt hXT hK hP hD hS hl.1 (by decide +kernel) (by decide +kernel) (by decide +kernel) (by decide +kernel) (fun w hw => List.mem_cons_of_mem _ (List.mem_append_right _ hw)) vtI_m vtI_g dX8_mode_20 dX8_mode_23 dX8_mode_24 dX8_mode_26 dX8_mode_29 ⟨rfl, rfl, fun h => by first | exact h.1 c_1 | exact h.2.1 c_6 | exact h.2.2.1 c_11 | exact c_17 h.2.2.2 | exact absurd h.2.2.2 (Int32.not_le.mpr c_17)⟩ (Nat.le_of_ble_eq_true rfl) (Nat.le_of_ble_eq_true rfl) (Nat.le_of_ble_eq_true rfl) (Nat.le_of_ble_eq_true rfl) (Nat.le_of_ble_eq_true rfl) (Nat.le_of_ble_eq_true rfl)
      · refine lv_iload_n hx hb dX8_mode_14 rfl (lv_at hl 2 rfl) ?_
        refine lv_bipush (v := nI 9) hx hb dX8_mode_15 (by decide) ?_
        refine lv_icmp_le (tgt := 30) hx hb dX8_mode_17 (by decide) (fun c_17 => ?_) (fun c_17 => ?_)
        · obtain ⟨v1, hv1, rfl⟩ := nI_of3 (m := 1) (by decide) c_1 c_6
          obtain ⟨q1, hq1, rfl⟩ : ∃ j : Nat, j ≤ 9 ∧ q = nI j := nI_of2 (nI_toInt (by decide)) (fun h9 => c_11 (Int32.lt_of_lt_of_le h9 (by decide))) c_17
          have hq0 : 1 ≤ q1 := by rcases Nat.lt_or_ge q1 1 with h9 | h9; {exact absurd ((nI_ltI (by omega) (by decide)).mpr h9) c_11}; {exact h9}
          refine lv_aload_n hx hb dX8_mode_30 rfl (lv_at hl 0 rfl) ?_
          refine lv_iload_n hx hb dX8_mode_31 rfl (lv_at hl 1 rfl) ?_
          refine nx_put (D := D) (ci := 9) (v := .int (nI v1)) (ty := .int) (C := RX8) (T := TX8) (N := 9) hx hb hts hin_X8 tyX8 tyX8_ok nmX8 hown hK hP hD hS 0 g0 rfl 7 (by decide) fl_55 (fun _ h9 => h9) rfl (by decide +kernel) rfl rfl (Nat.le_of_ble_eq_true rfl) dX8_mode_32 (fun ws_1 H locs gq up_2 hP hD hS => ?_)
          have g0 : ws_1[0]? = some (z0, .inr (9, [.ref a1, .ref t0, .ref d0, .ref s0, .ref e0, .ref k0, .ref al, .int (nI v1), .int (nI wi)])) := gq
          have g5 := up_2.get g5 (by decide)
          have g6 := up_2.get g6 (by decide)
          have g7 := up_2.get g7 (by decide)
          have g8 := up_2.get g8 (by decide)
          have g9 := up_2.get g9 (by decide)
          have g21 := up_2.get g21 (by decide)
          have g16 := up_2.get g16 (by decide)
          have sm := sm.up up_2 (by first | (simp; done) | ((try simp only); omega))
          have hSW := hSW.low (K := fun k => k = 0) ⟨Nat.le_of_eq up_2.1.symm, fun k _ hn => up_2.2 k hn⟩ (fun k hk => by (try simp only at hk); omega)
          refine lv_aload_n hx hb dX8_mode_35 rfl (lv_at hl 0 rfl) ?_
          refine lv_iload_n hx hb dX8_mode_36 rfl (lv_at hl 2 rfl) ?_
          refine nx_put (D := D) (ci := 9) (v := .int (nI q1)) (ty := .int) (C := RX8) (T := TX8) (N := 9) hx hb hts hin_X8 tyX8 tyX8_ok nmX8 hown hK hP hD hS 0 g0 rfl 8 (by decide) fl_59 (fun _ h9 => h9) rfl (by decide +kernel) rfl rfl (Nat.le_of_ble_eq_true rfl) dX8_mode_37 (fun ws_3 H locs gq up_4 hP hD hS => ?_)
          have g0 : ws_3[0]? = some (z0, .inr (9, [.ref a1, .ref t0, .ref d0, .ref s0, .ref e0, .ref k0, .ref al, .int (nI v1), .int (nI q1)])) := gq
          have g5 := up_4.get g5 (by decide)
          have g6 := up_4.get g6 (by decide)
          have g7 := up_4.get g7 (by decide)
          have g8 := up_4.get g8 (by decide)
          have g9 := up_4.get g9 (by decide)
          have g21 := up_4.get g21 (by decide)
          have g16 := up_4.get g16 (by decide)
          have sm := sm.up up_4 (by first | (simp; done) | ((try simp only); omega))
          have hSW := hSW.low (K := fun k => k = 0) ⟨Nat.le_of_eq up_4.1.symm, fun k _ hn => up_4.2 k hn⟩ (fun k hk => by (try simp only at hk); omega)
          refine lv_aload_n hx hb dX8_mode_40 rfl (lv_at hl 0 rfl) ?_
          refine va_get (D := D) (ci := 9) (v := .ref t0) (C := RX8) (T := TX8) (N := 9) hx hb hts hin_X8 hown hK hP 0 g0 rfl 1 (by decide) fl_19 (fun _ h9 => h9) rfl dX8_mode_41 ?_
          refine lv_iconst (v := nI 0) hx hb dX8_mode_44 (by decide) ?_
          refine CV.go (va_runV (As := [.int (nI 0)]) (rest := []) ⟨hx, hb, hml, hown, hts⟩ (c_X6_forgetFrom  g5 g6 g7 g8 g9 hst hsn hn6 hby (Nat.zero_le _) _) (cwV 1 hts gX8_mode_X6_forgetFrom rfl rfl rfl (by decide +kernel) ⟨Nat.le_of_ble_eq_true rfl, Nat.le_of_ble_eq_true rfl⟩) ⟨pw_blind, va_recv hK hP (ci := 7) (q0 := 5) rfl g5, fun U hU hW => pw_pre hK hP hD hU hW⟩ rfl rfl hl.1 rfl (lv_room (Nat.le_of_ble_eq_true rfl)) dX8_mode_45 ⟨Nat.le_of_ble_eq_true rfl, Nat.le_of_ble_eq_true rfl⟩) hD hS hA (fun ws_6 H locs hp hP hD hS => ?_)
          obtain ⟨se2, hst2, smM, g5, g9⟩ := hp
          have g0 := smM.get g0 (by intro h9; first | (simp at h9; done) | ((try simp only at h9); omega))
          have g6 := smM.get g6 (by intro h9; first | (simp at h9; done) | ((try simp only at h9); omega))
          have g7 := smM.get g7 (by intro h9; first | (simp at h9; done) | ((try simp only at h9); omega))
          have g8 := smM.get g8 (by intro h9; first | (simp at h9; done) | ((try simp only at h9); omega))
          have g21 := smM.get g21 (by intro h9; first | (simp at h9; done) | ((try simp only at h9); omega))
          have g16 := smM.get g16 (by intro h9; first | (simp at h9; done) | ((try simp only at h9); omega))
          have sm := sm.call smM (by intro k hk; first | exact False.elim hk | ((try simp only at hk ⊢); omega))
          have g5 : ws_6[5]? = some (t0, .inr (7, [.ref t1, .ref t2, .ref t3, .ref t4, .int (nI 0)])) := g5
          have g9 : ws_6[9]? = some (t4, .inl (cI, 16384, .inl (fun jj => nI (se2 jj)))) := g9
          have hSW := hSW.low smM (fun k hk => by (try simp only at hk); omega)
          refine lv_aload_n hx hb dX8_mode_48 rfl (lv_at hl 0 rfl) ?_
          refine va_get (D := D) (ci := 9) (v := .ref k0) (C := RX8) (T := TX8) (N := 9) hx hb hts hin_X8 hown hK hP 0 g0 rfl 5 (by decide) fl_47 (fun _ h9 => h9) rfl dX8_mode_49 ?_
          refine lv_iconst (v := nI 0) hx hb dX8_mode_52 (by decide) ?_
          refine nx_put (D := D) (ci := 2) (v := .int (nI 0)) (ty := .boolean) (C := RX1) (T := TX1) (N := 8) hx hb hts hin_X1 tyX1 tyX1_ok nmX1 hown hK hP hD hS 21 g21 rfl 7 (by decide) fl_115 (fun _ h9 => h9) rfl (by decide +kernel) (by decide) (by decide) (Nat.le_of_ble_eq_true rfl) dX8_mode_53 (fun ws_7 H locs gq up_8 hP hD hS => ?_)
          have g21 : ws_7[21]? = some (k0, .inr (2, [.ref k1, .ref k4, .ref k7, .ref k8, .ref k9, .ref k10, .int (nI plc), .int (nI 0)])) := gq
          have g0 := up_8.get g0 (by decide)
          have g5 := up_8.get g5 (by decide)
          have g6 := up_8.get g6 (by decide)
          have g7 := up_8.get g7 (by decide)
          have g8 := up_8.get g8 (by decide)
          have g9 := up_8.get g9 (by decide)
          have g16 := up_8.get g16 (by decide)
          have sm := sm.up up_8 (by first | (simp; done) | ((try simp only); omega))
          have hSW := hSW.low (K := fun k => k = 21) ⟨Nat.le_of_eq up_8.1.symm, fun k _ hn => up_8.2 k hn⟩ (fun k hk => by (try simp only at hk); omega)
          refine lv_aload_n hx hb dX8_mode_56 rfl (lv_at hl 0 rfl) ?_
          refine va_get (D := D) (ci := 9) (v := .ref s0) (C := RX8) (T := TX8) (N := 9) hx hb hts hin_X8 hown hK hP 0 g0 rfl 3 (by decide) fl_33 (fun _ h9 => h9) rfl dX8_mode_57 ?_
          refine CI.go (va_runV (As := []) (rest := []) ⟨hx, hb, hml, hown, hts⟩ (c_X5_putAllAway   hSW hnd _) (cwV 0 hts gX8_mode_X5_putAllAway rfl rfl rfl (by decide +kernel) ⟨Nat.le_of_ble_eq_true rfl, Nat.le_of_ble_eq_true rfl⟩) ⟨pwx_blind, va_recv hK hP (ci := 6) (q0 := 16) rfl g16, fun U hU hW => pwx_pre hX hA hS hK hP hD hU hW⟩ rfl rfl hl.1 rfl (lv_room (Nat.le_of_ble_eq_true rfl)) dX8_mode_60 ⟨Nat.le_of_ble_eq_true rfl, Nat.le_of_ble_eq_true rfl⟩) hD hS hA (fun r_9 ws_10 H locs hp hP hD hS => ?_)
          obtain ⟨es2, rfl, hSW, smP⟩ := hp
          have g0 := smP.get g0 (by simp)
          have g5 := smP.get g5 (by simp)
          have g6 := smP.get g6 (by simp)
          have g7 := smP.get g7 (by simp)
          have g8 := smP.get g8 (by simp)
          have g9 := smP.get g9 (by simp)
          have g21 := smP.get g21 (by simp)
          have sm := sm.call smP (fun k hk => by (try simp only at hk ⊢); omega)
          refine W.widen (k := 48) (n := 2352) (Nat.le_of_ble_eq_true rfl) (Nat.le_of_ble_eq_true rfl) ?_
          exact CIT.ret (v := (nI HS.length)) C hK hP hD hS rfl (⟨v1, q1, se2, es2, rfl, ⟨rfl, hv1⟩, ⟨rfl, hq0, hq1⟩, hst2, hSW, sm, g0, g5, g9, g21⟩) (by decide) (by decide) dX8_mode_63
        · exact vt_thrS (text := "there is no such mode") C hto hlt hXT hK hP hD hS hl.1 (by decide +kernel) (by decide +kernel) (by decide +kernel) (by decide +kernel) (fun w hw => List.mem_cons_of_mem _ (List.mem_append_right _ hw)) vtI_m vtI_g dX8_mode_20 dX8_mode_23 dX8_mode_24 dX8_mode_26 dX8_mode_29 ⟨rfl, rfl, fun h => by first | exact h.1 c_1 | exact h.2.1 c_6 | exact h.2.2.1 c_11 | exact c_17 h.2.2.2 | exact absurd h.2.2.2 (Int32.not_le.mpr c_17)⟩ (Nat.le_of_ble_eq_true rfl) (Nat.le_of_ble_eq_true rfl) (Nat.le_of_ble_eq_true rfl) (Nat.le_of_ble_eq_true rfl) (Nat.le_of_ble_eq_true rfl) (Nat.le_of_ble_eq_true rfl)
