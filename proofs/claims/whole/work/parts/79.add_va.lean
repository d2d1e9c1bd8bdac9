set_option maxHeartbeats 4000000 in
set_option maxRecDepth 100000 in
theorem c_X8_add {D : va_G} {cB cI cJ cO : ClassId} {l : Launch} {ad mi : Nat} {z0 a1 t0 d0 e0 k0 al so wi : Nat} {a2 a3 a4 len pl pcs gp : Nat} {t1 t2 t3 t4 nm : Nat} {lf : Nat → Int32} {bf sf se : Nat → Nat} {sh : List (List Int32)} {d1 d2 d3 d4 d5 mv kp : Nat} {ta tb cn mk my : Nat → Nat} {K : List (Nat × Nat)} {E : List (Nat × Nat × Nat)} {k1 k4 k7 k8 k9 k10 plc kn : Nat} {s0 s1 s2 s3 ca eh es er nd : Nat} {dd : Nat → DX} {HS SS RS : List Nat} {f fp : Nat → Int32} {fs fa_ : Nat → Nat} {T : List Int32} {dL : Nat → List Nat} {ws : va_W} (g0 : ws[0]? = some (z0, .inr (9, [.ref a1, .ref t0, .ref d0, .ref s0, .ref e0, .ref k0, .ref al, .int (nI so), .int (nI wi)]))) (g1 : ws[1]? = some (a1, .inr (8, [.ref a2, .ref a3, .ref a4, .int (nI len), .int (nI pl), .int (nI pcs), .int (nI gp)]))) (g2 : ws[2]? = some (a2, .inl (cB, 800, .inl f))) (g3 : ws[3]? = some (a3, .inl (cB, 800, .inl fp))) (g4 : ws[4]? = some (a4, .inl (cI, 801, .inl (fun jj => nI (fs jj))))) (g5 : ws[5]? = some (t0, .inr (7, [.ref t1, .ref t2, .ref t3, .ref t4, .int (nI nm)]))) (g6 : ws[6]? = some (t1, .inl (cB, 50000, .inl lf))) (g7 : ws[7]? = some (t2, .inl (cI, 6001, .inl (fun jj => nI (bf jj))))) (g8 : ws[8]? = some (t3, .inl (cI, 6000, .inl (fun jj => nI (sf jj))))) (g9 : ws[9]? = some (t4, .inl (cI, 16384, .inl (fun jj => nI (se jj))))) (g10 : ws[10]? = some (d0, .inr (5, [.ref d1, .ref d2, .ref d3, .ref d4, .ref d5, .int (nI mv), .int (nI kp)]))) (g11 : ws[11]? = some (d1, .inl (cI, 64, .inl (fun jj => nI (ta jj))))) (g12 : ws[12]? = some (d2, .inl (cI, 64, .inl (fun jj => nI (tb jj))))) (g13 : ws[13]? = some (d3, .inl (cI, 64, .inl (fun jj => nI (cn jj))))) (g14 : ws[14]? = some (d4, .inl (cI, 600, .inl (fun jj => nI (mk jj))))) (g15 : ws[15]? = some (d5, .inl (cI, 600, .inl (fun jj => nI (my jj))))) (g21 : ws[21]? = some (k0, .inr (2, [.ref k1, .ref k4, .ref k7, .ref k8, .ref k9, .ref k10, .int (nI plc), .int (nI kn)]))) (g32 : ws[32]? = some (al, .inl (cI, 800, .inl (fun jj => nI (fa_ jj))))) (hst : StC sh lf bf sf se) (hsn : sh.length = nm) (hn6 : nm ≤ 6000) (hby : sh.flatten.length ≤ 50000) (hHK : HdK mk my K) (hKl : K.length = mv) (h600 : mv ≤ 600) (hPC : PermC ta tb cn K E) (hta : Tab ta tb) (hE3 : E.length ≤ 300) (hSW : ShW ws cI cJ cO ad s0 s1 s2 s3 ca eh es er nd dd HS SS RS) (hnd : nd ≤ 48) (hT : Hd f T) (hlen : T.length = len) (h800 : len ≤ 800) (hs1 : so ≤ 1) (hw1 : 1 ≤ wi) (hw9 : wi ≤ 9) (hca : ca ≤ 400) (hMh : ∀ t ∈ HS, SetB (dd t).2.2.2.1 (fun q => (dL t).contains q)) : CIX D (TY cB cI cJ cO) l yX8_add wsX8_add ({ frames := 8, cells := 6, slots := 1062, locals := 192 }) ad mi [.ref z0] ws (fun r ws' => ∃ pl2 : Nat, ∃ pc2 : Nat, ∃ gp2 : Nat, ∃ fq : Nat → Int32, ∃ fs2 : Nat → Nat, ∃ lf2 : Nat → Int32, ∃ bf2 : Nat → Nat, ∃ sf2 : Nat → Nat, ∃ se2 : Nat → Nat, ∃ fa2 : Nat → Nat, ∃ ca2 : Nat, ∃ eh2 : Nat, ∃ nd2 : Nat, ∃ de : Nat → DX, ∃ HS2 : List Nat, ∃ SS2 : List Nat, r = (bif adOkC so wi T sh HS ca then nI ca else -1) ∧ (StC (bif adOkC so wi T sh HS ca then (runB sh (spanL so wi (plainOf T))).1 else sh) lf2 bf2 sf2 se2) ∧ ((bif adOkC so wi T sh HS ca then (runB sh (spanL so wi (plainOf T))).1 else sh).length ≤ 6000 ∧ (bif adOkC so wi T sh HS ca then (runB sh (spanL so wi (plainOf T))).1 else sh).flatten.length ≤ 50000) ∧ (ShW ws' cI cJ cO ad s0 s1 s2 s3 ca2 eh2 es er nd2 de HS2 SS2 RS) ∧ (nd2 ≤ 48) ∧ (adOkC so wi T sh HS ca = false → ca2 = ca ∧ HS2 = HS ∧ de = dd) ∧ (adOkC so wi T sh HS ca = true → ca2 = ca + 1 ∧ ∃ t, HS2 = HS ++ [t] ∧ AddD dd de dL ta tb E HS t ca (insL (runB sh (spanL so wi (plainOf T))).2.1)) ∧ Sm (fun k => k = 1 ∨ k = 3 ∨ k = 4 ∨ k = 5 ∨ k = 6 ∨ k = 7 ∨ k = 8 ∨ k = 9 ∨ k = 21 ∨ k = 32 ∨ k = 16 ∨ k = 17 ∨ k = 18 ∨ 51 ≤ k) ws ws' ∧ ws'[1]? = some (a1, .inr (8, [.ref a2, .ref a3, .ref a4, .int (nI 0), .int (nI pl2), .int (nI pc2), .int (nI gp2)])) ∧ ws'[3]? = some (a3, .inl (cB, 800, .inl fq)) ∧ ws'[4]? = some (a4, .inl (cI, 801, .inl (fun jj => nI (fs2 jj)))) ∧ ws'[5]? = some (t0, .inr (7, [.ref t1, .ref t2, .ref t3, .ref t4, .int (nI ((bif adOkC so wi T sh HS ca then (runB sh (spanL so wi (plainOf T))).1 else sh).length))])) ∧ ws'[6]? = some (t1, .inl (cB, 50000, .inl lf2)) ∧ ws'[7]? = some (t2, .inl (cI, 6001, .inl (fun jj => nI (bf2 jj)))) ∧ ws'[8]? = some (t3, .inl (cI, 6000, .inl (fun jj => nI (sf2 jj)))) ∧ ws'[9]? = some (t4, .inl (cI, 16384, .inl (fun jj => nI (se2 jj)))) ∧ ws'[21]? = some (k0, .inr (2, [.ref k1, .ref k4, .ref k7, .ref k8, .ref k9, .ref k10, .int (nI plc), .int (nI (bif adOkC so wi T sh HS ca then 0 else kn))])) ∧ ws'[32]? = some (al, .inl (cI, 800, .inl (fun jj => nI (fa2 jj))))) := by
  refine CIX.of (cc := cX8_add) (maxL := 5) (ret := (some .int)) (by decide) rfl (Nat.le_of_ble_eq_true rfl) ?_
  intro p e s m below meth c A C hK hP hD hA hS hX ls hl
  have hN := hX.1
  obtain ⟨hx, hb, hr, hml, hts, hown, hlocks, hnm⟩ := id C
  have fl_12 := hts (.fieldLink RX8 12 "TwinFinder" "tape" "LTwinFinder$Tape;") (by decide +kernel)
  have fl_19 := hts (.fieldLink RX8 19 "TwinFinder" "store" "LTwinFinder$Store;") (by decide +kernel)
  have fl_26 := hts (.fieldLink RX8 26 "TwinFinder" "permutations" "LTwinFinder$Permutations;") (by decide +kernel)
  have fl_33 := hts (.fieldLink RX8 33 "TwinFinder" "shelf" "LTwinFinder$Shelf;") (by decide +kernel)
  have fl_47 := hts (.fieldLink RX8 47 "TwinFinder" "kin" "LTwinFinder$Kin;") (by decide +kernel)
  have fl_51 := hts (.fieldLink RX8 51 "TwinFinder" "along" "[I") (by decide +kernel)
  have fl_55 := hts (.fieldLink RX8 55 "TwinFinder" "sortAtHand" "I") (by decide +kernel)
  have fl_85 := hts (.fieldLink RX8 85 "TwinFinder$Store" "given" "I") (by decide +kernel)
  have fl_104 := hts (.fieldLink RX8 104 "TwinFinder$Document" "least" "[I") (by decide +kernel)
  have fl_115 := hts (.fieldLink RX8 115 "TwinFinder$Kin" "known" "Z") (by decide +kernel)
  have fl_119 := hts (.fieldLink RX8 119 "TwinFinder$Document" "number" "I") (by decide +kernel)
  have hin_X0 : ∀ w ∈ u_ws RX0 TX0 7, w ∈ wsX8_add := by decide +kernel
  have hin_X1 : ∀ w ∈ u_ws RX1 TX1 8, w ∈ wsX8_add := by decide +kernel
  have hin_X6 : ∀ w ∈ u_ws RX6 TX6 5, w ∈ wsX8_add := by decide +kernel
  have hin_X8 : ∀ w ∈ u_ws RX8 TX8 9, w ∈ wsX8_add := by decide +kernel
  have hl : lv_has ls 5 [(0, .ref z0)] := hl
  have sm : Sm (fun k => k = 1 ∨ k = 3 ∨ k = 4 ∨ k = 5 ∨ k = 6 ∨ k = 7 ∨ k = 8 ∨ k = 9 ∨ k = 21 ∨ k = 32 ∨ k = 16 ∨ k = 17 ∨ k = 18 ∨ 51 ≤ k) ws ws := Sm.rf
  have hc0 : (0 : Nat) ≤ 6 := by decide
  have hs0 : (0 : Nat) ≤ 1062 := by decide
  have g16 := hSW.1
  have hHS : ∀ t ∈ HS, t < nd := fun t h9 => hSW.2.2.2.2.2.2.2.1 t (List.mem_append_left _ h9)
  have hndl0 := hSW.2.2.2.2.2.2.2.2.1
  refine lv_aload_n hx hb dX8_add_0 rfl (lv_at hl 0 rfl) ?_
  refine va_get (D := D) (ci := 9) (v := .ref a1) (C := RX8) (T := TX8) (N := 9) hx hb hts hin_X8 hown hK hP 0 g0 rfl 0 (by decide) fl_12 (fun _ h9 => h9) rfl dX8_add_1 ?_
  refine CI.go (va_runV (As := []) (rest := []) ⟨hx, hb, hml, hown, hts⟩ (c_X7_makePlain  g1 g2 g3 hT hlen h800 _) (cwV 0 hts gX8_add_X7_makePlain rfl rfl rfl (by decide +kernel) ⟨Nat.le_of_ble_eq_true rfl, Nat.le_of_ble_eq_true rfl⟩) ⟨pw_blind, va_recv hK hP (ci := 8) (q0 := 1) rfl g1, fun U hU hW => pw_pre hK hP hD hU hW⟩ rfl rfl hl.1 rfl (lv_room (Nat.le_of_ble_eq_true rfl)) dX8_add_4 ⟨Nat.le_of_ble_eq_true rfl, Nat.le_of_ble_eq_true rfl⟩) hD hS hA (fun r_1 ws_2 H locs hp hP hD hS => ?_)
  obtain ⟨fq, rfl, hq, smM, g1, g3⟩ := hp
  have g0 := smM.get g0 (by intro h9; first | (simp at h9; done) | ((try simp only at h9); omega))
  have g2 := smM.get g2 (by intro h9; first | (simp at h9; done) | ((try simp only at h9); omega))
  have g4 := smM.get g4 (by intro h9; first | (simp at h9; done) | ((try simp only at h9); omega))
  have g5 := smM.get g5 (by intro h9; first | (simp at h9; done) | ((try simp only at h9); omega))
  have g6 := smM.get g6 (by intro h9; first | (simp at h9; done) | ((try simp only at h9); omega))
  have g7 := smM.get g7 (by intro h9; first | (simp at h9; done) | ((try simp only at h9); omega))
  have g8 := smM.get g8 (by intro h9; first | (simp at h9; done) | ((try simp only at h9); omega))
  have g9 := smM.get g9 (by intro h9; first | (simp at h9; done) | ((try simp only at h9); omega))
  have g10 := smM.get g10 (by intro h9; first | (simp at h9; done) | ((try simp only at h9); omega))
  have g11 := smM.get g11 (by intro h9; first | (simp at h9; done) | ((try simp only at h9); omega))
  have g12 := smM.get g12 (by intro h9; first | (simp at h9; done) | ((try simp only at h9); omega))
  have g13 := smM.get g13 (by intro h9; first | (simp at h9; done) | ((try simp only at h9); omega))
  have g14 := smM.get g14 (by intro h9; first | (simp at h9; done) | ((try simp only at h9); omega))
  have g15 := smM.get g15 (by intro h9; first | (simp at h9; done) | ((try simp only at h9); omega))
  have g21 := smM.get g21 (by intro h9; first | (simp at h9; done) | ((try simp only at h9); omega))
  have g32 := smM.get g32 (by intro h9; first | (simp at h9; done) | ((try simp only at h9); omega))
  have g16 := smM.get g16 (by intro h9; first | (simp at h9; done) | ((try simp only at h9); omega))
  have sm := sm.call smM (by intro k hk; first | exact False.elim hk | ((try simp only at hk ⊢); omega))
  have g1 : ws_2[1]? = some (a1, .inr (8, [.ref a2, .ref a3, .ref a4, .int (nI len), .int (nI ((plainOf T).length)), .int (nI pcs), .int (nI gp)])) := g1
  have g3 : ws_2[3]? = some (a3, .inl (cB, 800, .inl fq)) := g3
  have hSW := hSW.low smM (fun k hk => by (try simp only at hk); omega)
  have hpl8 : (plainOf T).length ≤ 800 := by have := plainOf_len T; omega
  refine lv_pop hx hb dX8_add_7 rfl ?_
  refine lv_aload_n hx hb dX8_add_8 rfl (lv_at hl 0 rfl) ?_
  refine va_get (D := D) (ci := 9) (v := .ref a1) (C := RX8) (T := TX8) (N := 9) hx hb hts hin_X8 hown hK hP 0 g0 rfl 0 (by decide) fl_12 (fun _ h9 => h9) rfl dX8_add_9 ?_
  refine lv_iconst (v := nI 0) hx hb dX8_add_12 (by decide) ?_
  refine CI.go (va_runV (As := [.int (nI 0)]) (rest := []) ⟨hx, hb, hml, hown, hts⟩ (c_X7_cutTo  g1 (by omega) _) (cwV 1 hts gX8_add_X7_cutTo rfl rfl rfl (by decide +kernel) ⟨Nat.le_of_ble_eq_true rfl, Nat.le_of_ble_eq_true rfl⟩) ⟨pw_blind, va_recv hK hP (ci := 8) (q0 := 1) rfl g1, fun U hU hW => pw_pre hK hP hD hU hW⟩ rfl rfl hl.1 rfl (lv_room (Nat.le_of_ble_eq_true rfl)) dX8_add_13 ⟨Nat.le_of_ble_eq_true rfl, Nat.le_of_ble_eq_true rfl⟩) hD hS hA (fun r_3 ws_4 H locs hp hP hD hS => ?_)
  obtain ⟨rfl, smM, g1⟩ := hp
  have g0 := smM.get g0 (by intro h9; first | (simp at h9; done) | ((try simp only at h9); omega))
  have g2 := smM.get g2 (by intro h9; first | (simp at h9; done) | ((try simp only at h9); omega))
  have g3 := smM.get g3 (by intro h9; first | (simp at h9; done) | ((try simp only at h9); omega))
  have g4 := smM.get g4 (by intro h9; first | (simp at h9; done) | ((try simp only at h9); omega))
  have g5 := smM.get g5 (by intro h9; first | (simp at h9; done) | ((try simp only at h9); omega))
  have g6 := smM.get g6 (by intro h9; first | (simp at h9; done) | ((try simp only at h9); omega))
  have g7 := smM.get g7 (by intro h9; first | (simp at h9; done) | ((try simp only at h9); omega))
  have g8 := smM.get g8 (by intro h9; first | (simp at h9; done) | ((try simp only at h9); omega))
  have g9 := smM.get g9 (by intro h9; first | (simp at h9; done) | ((try simp only at h9); omega))
  have g10 := smM.get g10 (by intro h9; first | (simp at h9; done) | ((try simp only at h9); omega))
  have g11 := smM.get g11 (by intro h9; first | (simp at h9; done) | ((try simp only at h9); omega))
  have g12 := smM.get g12 (by intro h9; first | (simp at h9; done) | ((try simp only at h9); omega))
  have g13 := smM.get g13 (by intro h9; first | (simp at h9; done) | ((try simp only at h9); omega))
  have g14 := smM.get g14 (by intro h9; first | (simp at h9; done) | ((try simp only at h9); omega))
  have g15 := smM.get g15 (by intro h9; first | (simp at h9; done) | ((try simp only at h9); omega))
  have g21 := smM.get g21 (by intro h9; first | (simp at h9; done) | ((try simp only at h9); omega))
  have g32 := smM.get g32 (by intro h9; first | (simp at h9; done) | ((try simp only at h9); omega))
  have g16 := smM.get g16 (by intro h9; first | (simp at h9; done) | ((try simp only at h9); omega))
  have sm := sm.call smM (by intro k hk; first | exact False.elim hk | ((try simp only at hk ⊢); omega))
  have g1 : ws_4[1]? = some (a1, .inr (8, [.ref a2, .ref a3, .ref a4, .int (nI (tp_cut (nI 0) len)), .int (nI (((plainOf T).length))), .int (nI pcs), .int (nI gp)])) := g1
  have hSW := hSW.low smM (fun k hk => by (try simp only at hk); omega)
  have g1 : ws_4[1]? = some (a1, .inr (8, [.ref a2, .ref a3, .ref a4, .int (nI 0), .int (nI ((plainOf T).length)), .int (nI pcs), .int (nI gp)])) := by rw [← (tp_yes (Nat.zero_le len) (by omega)).2]; exact g1
  refine lv_pop hx hb dX8_add_16 rfl ?_
  refine lv_aload_n hx hb dX8_add_17 rfl (lv_at hl 0 rfl) ?_
  refine va_get (D := D) (ci := 9) (v := .ref s0) (C := RX8) (T := TX8) (N := 9) hx hb hts hin_X8 hown hK hP 0 g0 rfl 3 (by decide) fl_33 (fun _ h9 => h9) rfl dX8_add_18 ?_
  refine CI.go (va_runV (As := []) (rest := []) ⟨hx, hb, hml, hown, hts⟩ (c_X5_isFull  g16 hSW.2.1 hSW.2.2.2.2.1 hHS (by omega) hca _) (cwV 0 hts gX8_add_X5_isFull rfl rfl rfl (by decide +kernel) ⟨Nat.le_of_ble_eq_true rfl, Nat.le_of_ble_eq_true rfl⟩) ⟨pw_blind, va_recv hK hP (ci := 6) (q0 := 16) rfl g16, fun U hU hW => pw_pre hK hP hD hU hW⟩ rfl rfl hl.1 rfl (lv_room (Nat.le_of_ble_eq_true rfl)) dX8_add_21 ⟨Nat.le_of_ble_eq_true rfl, Nat.le_of_ble_eq_true rfl⟩) hD hS hA (fun r_5 ws_6 H locs hp hP hD hS => ?_)
  obtain ⟨rfl, rfl⟩ := hp
  refine nx_if_eq (tgt := 29) hx hb (by exact bn2 _) dX8_add_24 (by decide) (fun c_24 => ?_) (fun c_24 => ?_)
  · have hnf := nf48 (bool0 c_24)
    refine lv_aload_n hx hb dX8_add_29 rfl (lv_at hl 0 rfl) ?_
    refine va_get (D := D) (ci := 9) (v := .ref a1) (C := RX8) (T := TX8) (N := 9) hx hb hts hin_X8 hown hK hP 0 g0 rfl 0 (by decide) fl_12 (fun _ h9 => h9) rfl dX8_add_30 ?_
    refine lv_aload_n hx hb dX8_add_33 rfl (lv_at hl 0 rfl) ?_
    refine va_get (D := D) (ci := 9) (v := .int (nI so)) (C := RX8) (T := TX8) (N := 9) hx hb hts hin_X8 hown hK hP 0 g0 rfl 7 (by decide) fl_55 (fun _ h9 => h9) rfl dX8_add_34 ?_
    refine lv_iconst (v := nI 1) hx hb dX8_add_37 (by decide) ?_
    refine nx_icmp_ne (tgt := 45) hx hb (by omega) (by decide) dX8_add_38 (by decide) (fun c_38 => ?_) (fun c_38 => ?_)
    · refine lv_iconst (v := nI 0) hx hb dX8_add_45 (by decide) ?_
      refine CV.go (va_runV (As := [.int (nI 0)]) (rest := []) ⟨hx, hb, hml, hown, hts⟩ (c_X7_markPieces  g1 g3 g4 (by decide) hq rfl hpl8 (plain_ok T).2 _) (cwV 1 hts gX8_add_X7_markPieces rfl rfl rfl (by decide +kernel) ⟨Nat.le_of_ble_eq_true rfl, Nat.le_of_ble_eq_true rfl⟩) ⟨pw_blind, va_recv hK hP (ci := 8) (q0 := 1) rfl g1, fun U hU hW => pw_pre hK hP hD hU hW⟩ rfl rfl hl.1 rfl (lv_room (Nat.le_of_ble_eq_true rfl)) dX8_add_46 ⟨Nat.le_of_ble_eq_true rfl, Nat.le_of_ble_eq_true rfl⟩) hD hS hA (fun ws_8 H locs hp hP hD hS => ?_)
      obtain ⟨fs2, hfs9, hfe9, smM, g1, g4⟩ := hp
      have g0 := smM.get g0 (by intro h9; first | (simp at h9; done) | ((try simp only at h9); omega))
      have g2 := smM.get g2 (by intro h9; first | (simp at h9; done) | ((try simp only at h9); omega))
      have g3 := smM.get g3 (by intro h9; first | (simp at h9; done) | ((try simp only at h9); omega))
      have g5 := smM.get g5 (by intro h9; first | (simp at h9; done) | ((try simp only at h9); omega))
      have g6 := smM.get g6 (by intro h9; first | (simp at h9; done) | ((try simp only at h9); omega))
      have g7 := smM.get g7 (by intro h9; first | (simp at h9; done) | ((try simp only at h9); omega))
      have g8 := smM.get g8 (by intro h9; first | (simp at h9; done) | ((try simp only at h9); omega))
      have g9 := smM.get g9 (by intro h9; first | (simp at h9; done) | ((try simp only at h9); omega))
      have g10 := smM.get g10 (by intro h9; first | (simp at h9; done) | ((try simp only at h9); omega))
      have g11 := smM.get g11 (by intro h9; first | (simp at h9; done) | ((try simp only at h9); omega))
      have g12 := smM.get g12 (by intro h9; first | (simp at h9; done) | ((try simp only at h9); omega))
      have g13 := smM.get g13 (by intro h9; first | (simp at h9; done) | ((try simp only at h9); omega))
      have g14 := smM.get g14 (by intro h9; first | (simp at h9; done) | ((try simp only at h9); omega))
      have g15 := smM.get g15 (by intro h9; first | (simp at h9; done) | ((try simp only at h9); omega))
      have g21 := smM.get g21 (by intro h9; first | (simp at h9; done) | ((try simp only at h9); omega))
      have g32 := smM.get g32 (by intro h9; first | (simp at h9; done) | ((try simp only at h9); omega))
      have g16 := smM.get g16 (by intro h9; first | (simp at h9; done) | ((try simp only at h9); omega))
      have sm := sm.call smM (by intro k hk; first | exact False.elim hk | ((try simp only at hk ⊢); omega))
      have g1 : ws_8[1]? = some (a1, .inr (8, [.ref a2, .ref a3, .ref a4, .int (nI 0), .int (nI (((plainOf T).length))), .int (nI (pcnt 0 (plainOf T))), .int (nI 0)])) := g1
      have g4 : ws_8[4]? = some (a4, .inl (cI, 801, .inl (fun jj => nI (fs2 jj)))) := g4
      have hsv : so = 0 := by omega
      have hfs : ∀ j, j < pcnt so (plainOf T) → fs2 j = stt so (plainOf T) j := by rw [hsv]; exact hfs9
      have hfe : fs2 (pcnt so (plainOf T)) = (plainOf T).length + so := by rw [hsv]; exact hfe9
      have hSW := hSW.low smM (fun k hk => by (try simp only at hk); omega)
      have g1 : ws_8[1]? = some (a1, .inr (8, [.ref a2, .ref a3, .ref a4, .int (nI 0), .int (nI ((plainOf T).length)), .int (nI (pcnt so (plainOf T))), .int (nI so)])) := by rw [hsv]; exact g1
      refine lv_aload_n hx hb dX8_add_49 rfl (lv_at hl 0 rfl) ?_
      refine va_get (D := D) (ci := 9) (v := .ref t0) (C := RX8) (T := TX8) (N := 9) hx hb hts hin_X8 hown hK hP 0 g0 rfl 1 (by decide) fl_19 (fun _ h9 => h9) rfl dX8_add_50 ?_
      refine va_get (D := D) (ci := 7) (v := .int (nI nm)) (C := RX6) (T := TX6) (N := 5) hx hb hts hin_X6 hown hK hP 5 g5 rfl 4 (by decide) fl_85 (fun _ h9 => h9) rfl dX8_add_53 ?_
      refine lv_istore_n (lv' := [(1, .int (nI nm)), (0, .ref z0)]) hx hb dX8_add_56 rfl hl (by decide) rfl (fun ls hl => ?_)
      refine lv_aload_n hx hb dX8_add_57 rfl (lv_at hl 1 rfl) ?_
      refine CI.go (va_runV (As := []) (rest := []) ⟨hx, hb, hml, hown, hts⟩ (c_X8_numberAlongText  g0 g1 g3 g4 g5 g6 g7 g8 g9 g32 hst hsn hn6 hby hs1 hw1 hw9 hq hpl8 (plain_ok T).1 (plain_ok T).2 hfs hfe _) (cwV 0 hts gX8_add_X8_numberAlongText rfl rfl rfl (by decide +kernel) ⟨Nat.le_of_ble_eq_true rfl, Nat.le_of_ble_eq_true rfl⟩) ⟨pw_blind, va_recv hK hP (ci := 9) (q0 := 0) rfl g0, fun U hU hW => pw_pre hK hP hD hU hW⟩ rfl rfl hl.1 rfl (lv_room (Nat.le_of_ble_eq_true rfl)) dX8_add_58 ⟨Nat.le_of_ble_eq_true rfl, Nat.le_of_ble_eq_true rfl⟩) hD hS hA (fun r_9 ws_10 H locs hp hP hD hS => ?_)
      obtain ⟨lf2, bf2, sf2, se2, fa2, rfl, hst2, hfa2, hok2, hbn, smA, g5, g6, g7, g8, g9, g32⟩ := hp
      have g0 := smA.get g0 (by intro h9; first | (simp at h9; done) | ((try simp only at h9); omega))
      have g1 := smA.get g1 (by intro h9; first | (simp at h9; done) | ((try simp only at h9); omega))
      have g2 := smA.get g2 (by intro h9; first | (simp at h9; done) | ((try simp only at h9); omega))
      have g3 := smA.get g3 (by intro h9; first | (simp at h9; done) | ((try simp only at h9); omega))
      have g4 := smA.get g4 (by intro h9; first | (simp at h9; done) | ((try simp only at h9); omega))
      have g10 := smA.get g10 (by intro h9; first | (simp at h9; done) | ((try simp only at h9); omega))
      have g11 := smA.get g11 (by intro h9; first | (simp at h9; done) | ((try simp only at h9); omega))
      have g12 := smA.get g12 (by intro h9; first | (simp at h9; done) | ((try simp only at h9); omega))
      have g13 := smA.get g13 (by intro h9; first | (simp at h9; done) | ((try simp only at h9); omega))
      have g14 := smA.get g14 (by intro h9; first | (simp at h9; done) | ((try simp only at h9); omega))
      have g15 := smA.get g15 (by intro h9; first | (simp at h9; done) | ((try simp only at h9); omega))
      have g21 := smA.get g21 (by intro h9; first | (simp at h9; done) | ((try simp only at h9); omega))
      have g16 := smA.get g16 (by intro h9; first | (simp at h9; done) | ((try simp only at h9); omega))
      have sm := sm.call smA (by intro k hk; first | exact False.elim hk | ((try simp only at hk ⊢); omega))
      have g5 : ws_10[5]? = some (t0, .inr (7, [.ref t1, .ref t2, .ref t3, .ref t4, .int (nI ((runB sh (spanL so wi (plainOf T))).1.length))])) := g5
      have g6 : ws_10[6]? = some (t1, .inl (cB, 50000, .inl lf2)) := g6
      have g7 : ws_10[7]? = some (t2, .inl (cI, 6001, .inl (fun jj => nI (bf2 jj)))) := g7
      have g8 : ws_10[8]? = some (t3, .inl (cI, 6000, .inl (fun jj => nI (sf2 jj)))) := g8
      have g9 : ws_10[9]? = some (t4, .inl (cI, 16384, .inl (fun jj => nI (se2 jj)))) := g9
      have g32 : ws_10[32]? = some (al, .inl (cI, 800, .inl (fun jj => nI (fa2 jj)))) := g32
      have hSW := hSW.low smA (fun k hk => by (try simp only at hk); omega)
      cases hb9 : (runB sh (spanL so wi (plainOf T))).2.2
      · rw [show (bif false then nI (spanL so wi (plainOf T)).length else (-1 : Int32)) = -1 from rfl]
        refine lv_istore_n (lv' := [(2, .int (-1)), (1, .int (nI nm)), (0, .ref z0)]) hx hb dX8_add_61 rfl hl (by decide) rfl (fun ls hl => ?_)
        refine lv_iload_n hx hb dX8_add_62 rfl (lv_at hl 0 rfl) ?_
        refine lv_iconst (v := -1) hx hb dX8_add_63 (by decide) ?_
        refine lv_icmp_ne (tgt := 77) hx hb dX8_add_64 (by decide) (fun c_64 => absurd (by decide) c_64) (fun c_64 => ?_)
        have hle9 : nm ≤ (runB sh (spanL so wi (plainOf T))).1.length := by obtain ⟨M9, hM9⟩ : ∃ M9, (runB sh (spanL so wi (plainOf T))).1 = sh ++ M9 := runB_pre; rw [hM9, List.length_append, hsn]; omega
        refine lv_aload_n hx hb dX8_add_67 rfl (lv_at hl 2 rfl) ?_
        refine va_get (D := D) (ci := 9) (v := .ref t0) (C := RX8) (T := TX8) (N := 9) hx hb hts hin_X8 hown hK hP 0 g0 rfl 1 (by decide) fl_19 (fun _ h9 => h9) rfl dX8_add_68 ?_
        refine lv_iload_n hx hb dX8_add_71 rfl (lv_at hl 1 rfl) ?_
        refine CV.go (va_runV (As := [.int (nI nm)]) (rest := []) ⟨hx, hb, hml, hown, hts⟩ (c_X6_forgetFrom  g5 g6 g7 g8 g9 hst2 rfl hbn.1 hbn.2 hle9 _) (cwV 1 hts gX8_add_X6_forgetFrom rfl rfl rfl (by decide +kernel) ⟨Nat.le_of_ble_eq_true rfl, Nat.le_of_ble_eq_true rfl⟩) ⟨pw_blind, va_recv hK hP (ci := 7) (q0 := 5) rfl g5, fun U hU hW => pw_pre hK hP hD hU hW⟩ rfl rfl hl.1 rfl (lv_room (Nat.le_of_ble_eq_true rfl)) dX8_add_72 ⟨Nat.le_of_ble_eq_true rfl, Nat.le_of_ble_eq_true rfl⟩) hD hS hA (fun ws_12 H locs hp hP hD hS => ?_)
        obtain ⟨se3, hst3, smM, g5, g9⟩ := hp
        have g0 := smM.get g0 (by intro h9; first | (simp at h9; done) | ((try simp only at h9); omega))
        have g1 := smM.get g1 (by intro h9; first | (simp at h9; done) | ((try simp only at h9); omega))
        have g2 := smM.get g2 (by intro h9; first | (simp at h9; done) | ((try simp only at h9); omega))
        have g3 := smM.get g3 (by intro h9; first | (simp at h9; done) | ((try simp only at h9); omega))
        have g4 := smM.get g4 (by intro h9; first | (simp at h9; done) | ((try simp only at h9); omega))
        have g6 := smM.get g6 (by intro h9; first | (simp at h9; done) | ((try simp only at h9); omega))
        have g7 := smM.get g7 (by intro h9; first | (simp at h9; done) | ((try simp only at h9); omega))
        have g8 := smM.get g8 (by intro h9; first | (simp at h9; done) | ((try simp only at h9); omega))
        have g10 := smM.get g10 (by intro h9; first | (simp at h9; done) | ((try simp only at h9); omega))
        have g11 := smM.get g11 (by intro h9; first | (simp at h9; done) | ((try simp only at h9); omega))
        have g12 := smM.get g12 (by intro h9; first | (simp at h9; done) | ((try simp only at h9); omega))
        have g13 := smM.get g13 (by intro h9; first | (simp at h9; done) | ((try simp only at h9); omega))
        have g14 := smM.get g14 (by intro h9; first | (simp at h9; done) | ((try simp only at h9); omega))
        have g15 := smM.get g15 (by intro h9; first | (simp at h9; done) | ((try simp only at h9); omega))
        have g21 := smM.get g21 (by intro h9; first | (simp at h9; done) | ((try simp only at h9); omega))
        have g32 := smM.get g32 (by intro h9; first | (simp at h9; done) | ((try simp only at h9); omega))
        have g16 := smM.get g16 (by intro h9; first | (simp at h9; done) | ((try simp only at h9); omega))
        have sm := sm.call smM (by intro k hk; first | exact False.elim hk | ((try simp only at hk ⊢); omega))
        have g5 : ws_12[5]? = some (t0, .inr (7, [.ref t1, .ref t2, .ref t3, .ref t4, .int (nI nm)])) := g5
        have g9 : ws_12[9]? = some (t4, .inl (cI, 16384, .inl (fun jj => nI (se3 jj)))) := g9
        have hSW := hSW.low smM (fun k hk => by (try simp only at hk); omega)
        refine lv_iconst (v := -1) hx hb dX8_add_75 (by decide) ?_
        have hno : adOkC so wi T sh HS ca = false := by rw [adOkC, hb9, Bool.and_false]
        have hst3 : StC sh lf2 bf2 sf2 se3 := by obtain ⟨M9, hM9⟩ : ∃ M9, (runB sh (spanL so wi (plainOf T))).1 = sh ++ M9 := runB_pre; rw [hM9, List.take_append_of_le_length (by omega), List.take_of_length_le (by omega)] at hst3; exact hst3
        have g5 : ws_12[5]? = some (t0, .inr (7, [.ref t1, .ref t2, .ref t3, .ref t4, .int (nI ((bif adOkC so wi T sh HS ca then (runB sh (spanL so wi (plainOf T))).1 else sh).length))])) := by rw [hno]; show _ = some (t0, (.inr (7, [.ref t1, .ref t2, .ref t3, .ref t4, .int (nI sh.length)]) : va_E)); rw [hsn]; exact g5
        have g21 : ws_12[21]? = some (k0, .inr (2, [.ref k1, .ref k4, .ref k7, .ref k8, .ref k9, .ref k10, .int (nI plc), .int (nI (bif adOkC so wi T sh HS ca then 0 else kn))])) := by rw [hno]; exact g21
        exact CI.ret (v := (-1)) C hK hP hD hS rfl (⟨_, _, _, _, _, _, _, _, _, _, _, _, _, _, _, _, (by rw [hno]; rfl), (by rw [hno]; exact hst3), (by rw [hno]; show sh.length ≤ 6000 ∧ sh.flatten.length ≤ 50000; exact ⟨by omega, hby⟩), hSW, hnd, (fun _ => ⟨rfl, rfl, rfl⟩), (fun h9 => by rw [hno] at h9; cases h9), sm, g1, g3, g4, g5, g6, g7, g8, g9, g21, g32⟩) hc0 hs0 dX8_add_76
      · have hbk := hok2 hb9
        have hbl := hbk.al (by have h9 := span_le (so := so) (wi := wi) (plain_ok T).2 hw1; omega)
        rw [show (bif true then nI (spanL so wi (plainOf T)).length else (-1 : Int32)) = nI (runB sh (spanL so wi (plainOf T))).2.1.length from by rw [hbk.2.2.1]; rfl]
        refine lv_istore_n (lv' := [(2, .int (nI ((runB sh (spanL so wi (plainOf T))).2.1.length))), (1, .int (nI nm)), (0, .ref z0)]) hx hb dX8_add_61 rfl hl (by decide) rfl (fun ls hl => ?_)
        refine lv_iload_n hx hb dX8_add_62 rfl (lv_at hl 0 rfl) ?_
        refine lv_iconst (v := -1) hx hb dX8_add_63 (by decide) ?_
        refine lv_icmp_ne (tgt := 77) hx hb dX8_add_64 (by decide) (fun c_64 => ?_) (fun c_64 => ?_)
        · refine lv_aload_n hx hb dX8_add_77 rfl (lv_at hl 2 rfl) ?_
          refine va_get (D := D) (ci := 9) (v := .ref s0) (C := RX8) (T := TX8) (N := 9) hx hb hts hin_X8 hown hK hP 0 g0 rfl 3 (by decide) fl_33 (fun _ h9 => h9) rfl dX8_add_78 ?_
          refine CQ.go (va_runV (As := []) (rest := []) ⟨hx, hb, hml, hown, hts⟩ (c_X5_takeNext   hSW hnd (by omega) _) (cwV 0 hts gX8_add_X5_takeNext rfl rfl rfl (by decide +kernel) ⟨Nat.le_of_ble_eq_true rfl, Nat.le_of_ble_eq_true rfl⟩) ⟨pwx_blind, va_recv hK hP (ci := 6) (q0 := 16) rfl g16, fun U hU hW => pwx_pre hX hA hS hK hP hD hU hW⟩ rfl rfl hl.1 rfl (lv_room (Nat.le_of_ble_eq_true rfl)) dX8_add_81 ⟨Nat.le_of_ble_eq_true rfl, Nat.le_of_ble_eq_true rfl⟩) hD hS hA (fun r_13 ws_14 H locs hp hP hD hS => ?_)
          obtain ⟨tN, dd2, nd2, SS2, eh2, rfl, hSW, hnm2, hkp2, hnt2, hnd2, smT⟩ := hp
          have g0 := smT.get g0 (by simp)
          have g1 := smT.get g1 (by simp)
          have g2 := smT.get g2 (by simp)
          have g3 := smT.get g3 (by simp)
          have g4 := smT.get g4 (by simp)
          have g5 := smT.get g5 (by simp)
          have g6 := smT.get g6 (by simp)
          have g7 := smT.get g7 (by simp)
          have g8 := smT.get g8 (by simp)
          have g9 := smT.get g9 (by simp)
          have g10 := smT.get g10 (by simp)
          have g11 := smT.get g11 (by simp)
          have g12 := smT.get g12 (by simp)
          have g13 := smT.get g13 (by simp)
          have g14 := smT.get g14 (by simp)
          have g15 := smT.get g15 (by simp)
          have g21 := smT.get g21 (by simp)
          have g32 := smT.get g32 (by simp)
          have sm := sm.call smT (fun k hk => by (try simp only at hk ⊢); omega)
          refine W.widen (k := 6) (n := 1062) (Nat.le_of_ble_eq_true rfl) (Nat.le_of_ble_eq_true rfl) ?_
          refine lv_astore_n (lv' := [(3, .ref ((dd2 tN).1.2)), (2, .int (nI ((runB sh (spanL so wi (plainOf T))).2.1.length))), (1, .int (nI nm)), (0, .ref z0)]) hx hb dX8_add_84 rfl hl (by decide) rfl (fun ls hl => ?_)
          obtain ⟨g16, hLh2, -, -, hDW2, hEd2, hNd2, hAll2, hndl2, hRS2, h512⟩ := id hSW
          have htNl : tN < nd2 := hAll2 tN (by simp)
          obtain ⟨⟨⟨pN, aN⟩, ⟨x1N, x2N, x3N, x4N⟩, ⟨nuN, zN⟩, fsN, fnN, flN, fhN⟩, hdxN⟩ : ∃ z : DX, z = dd2 tN := ⟨_, rfl⟩
          have hD5N := (hDW2.1 tN htNl).1
          have hP51N : 51 ≤ pN := by have h9 := (hDW2.1 tN htNl).2; rw [← hdxN] at h9; exact h9
          rw [← hdxN] at hD5N
          have gpN : ws_14[pN]? = some (aN, .inr (1, [.int (nI tN), .ref x1N, .ref x2N, .ref x3N, .ref x4N, .int (nI nuN), .int (nI zN)])) := hD5N.1
          have gpN_1 : ws_14[pN + 1]? = some (x1N, .inl (cJ, 94, .inr (.inl fsN))) := hD5N.2.1
          have gpN_2 : ws_14[pN + 2]? = some (x2N, .inl (cI, 800, .inl (fun jj => nI (fnN jj)))) := hD5N.2.2.1
          have gpN_3 : ws_14[pN + 3]? = some (x3N, .inl (cI, 64, .inl (fun jj => nI (flN jj)))) := hD5N.2.2.2.1
          have gpN_4 : ws_14[pN + 4]? = some (x4N, .inl (cI, 48, .inl (fun jj => nI (fhN jj)))) := hD5N.2.2.2.2
          have haN : (dd2 tN).1.2 = aN := by rw [← hdxN]
          have hl : lv_has ls 5 [(3, .ref aN), (2, .int (nI ((runB sh (spanL so wi (plainOf T))).2.1.length))), (1, .int (nI nm)), (0, .ref z0)] := by rw [← show (dd2 tN).1.2 = aN from haN]; exact hl
          refine lv_aload_n hx hb dX8_add_85 rfl (lv_at hl 0 rfl) ?_
          refine lv_aload_n hx hb dX8_add_86 rfl (lv_at hl 3 rfl) ?_
          refine va_get (D := D) (ci := 9) (v := .ref al) (C := RX8) (T := TX8) (N := 9) hx hb hts hin_X8 hown hK hP 0 g0 rfl 6 (by decide) fl_51 (fun _ h9 => h9) rfl dX8_add_87 ?_
          refine lv_iload_n hx hb dX8_add_90 rfl (lv_at hl 1 rfl) ?_
          refine lv_aload_n hx hb dX8_add_91 rfl (lv_at hl 3 rfl) ?_
          refine va_get (D := D) (ci := 9) (v := .ref t0) (C := RX8) (T := TX8) (N := 9) hx hb hts hin_X8 hown hK hP 0 g0 rfl 1 (by decide) fl_19 (fun _ h9 => h9) rfl dX8_add_92 ?_
          refine va_get (D := D) (ci := 7) (v := .int (nI ((runB sh (spanL so wi (plainOf T))).1.length))) (C := RX6) (T := TX6) (N := 5) hx hb hts hin_X6 hown hK hP 5 g5 rfl 4 (by decide) fl_85 (fun _ h9 => h9) rfl dX8_add_95 ?_
          refine CV.go (va_runV (As := [.ref al, .int (nI ((runB sh (spanL so wi (plainOf T))).2.1.length)), .int (nI ((runB sh (spanL so wi (plainOf T))).1.length))]) (rest := []) ⟨hx, hb, hml, hown, hts⟩ (c_X0_fillWith (px := pN) (A_ := (runB sh (spanL so wi (plainOf T))).2.1) gpN gpN_1 gpN_2 g32 (by omega) (hfa2 hb9) hbl.1 hbl.2.1 hbn.1 _) (cwV 3 hts gX8_add_X0_fillWith rfl rfl rfl (by decide +kernel) ⟨Nat.le_of_ble_eq_true rfl, Nat.le_of_ble_eq_true rfl⟩) ⟨pw_blind, va_recv hK hP (ci := 1) (q0 := pN) rfl gpN, fun U hU hW => pw_pre hK hP hD hU hW⟩ rfl rfl hl.1 rfl (lv_room (Nat.le_of_ble_eq_true rfl)) dX8_add_98 ⟨Nat.le_of_ble_eq_true rfl, Nat.le_of_ble_eq_true rfl⟩) hD hS hA (fun ws_16 H locs hp hP hD hS => ?_)
          obtain ⟨fs3, fn3, hsb, hfn3, smF, gpN, gpN_1, gpN_2⟩ := hp
          have g0 := smF.get g0 (by intro h9; first | (simp at h9; done) | ((try simp only at h9); omega))
          have g1 := smF.get g1 (by intro h9; first | (simp at h9; done) | ((try simp only at h9); omega))
          have g2 := smF.get g2 (by intro h9; first | (simp at h9; done) | ((try simp only at h9); omega))
          have g3 := smF.get g3 (by intro h9; first | (simp at h9; done) | ((try simp only at h9); omega))
          have g4 := smF.get g4 (by intro h9; first | (simp at h9; done) | ((try simp only at h9); omega))
          have g5 := smF.get g5 (by intro h9; first | (simp at h9; done) | ((try simp only at h9); omega))
          have g6 := smF.get g6 (by intro h9; first | (simp at h9; done) | ((try simp only at h9); omega))
          have g7 := smF.get g7 (by intro h9; first | (simp at h9; done) | ((try simp only at h9); omega))
          have g8 := smF.get g8 (by intro h9; first | (simp at h9; done) | ((try simp only at h9); omega))
          have g9 := smF.get g9 (by intro h9; first | (simp at h9; done) | ((try simp only at h9); omega))
          have g10 := smF.get g10 (by intro h9; first | (simp at h9; done) | ((try simp only at h9); omega))
          have g11 := smF.get g11 (by intro h9; first | (simp at h9; done) | ((try simp only at h9); omega))
          have g12 := smF.get g12 (by intro h9; first | (simp at h9; done) | ((try simp only at h9); omega))
          have g13 := smF.get g13 (by intro h9; first | (simp at h9; done) | ((try simp only at h9); omega))
          have g14 := smF.get g14 (by intro h9; first | (simp at h9; done) | ((try simp only at h9); omega))
          have g15 := smF.get g15 (by intro h9; first | (simp at h9; done) | ((try simp only at h9); omega))
          have g21 := smF.get g21 (by intro h9; first | (simp at h9; done) | ((try simp only at h9); omega))
          have g32 := smF.get g32 (by intro h9; first | (simp at h9; done) | ((try simp only at h9); omega))
          have gpN_3 := smF.get gpN_3 (by intro h9; first | (simp at h9; done) | ((try simp only at h9); omega))
          have gpN_4 := smF.get gpN_4 (by intro h9; first | (simp at h9; done) | ((try simp only at h9); omega))
          have g16 := smF.get g16 (by intro h9; first | (simp at h9; done) | ((try simp only at h9); omega))
          have sm := sm.call smF (by intro k hk; first | exact False.elim hk | ((try simp only at hk ⊢); omega))
          have gpN : ws_16[pN]? = some (aN, .inr (1, [.int (nI tN), .ref x1N, .ref x2N, .ref x3N, .ref x4N, .int (nI nuN), .int (nI ((selN ((runB sh (spanL so wi (plainOf T))).2.1) ((runB sh (spanL so wi (plainOf T))).1.length)).length))])) := gpN
          have gpN_1 : ws_16[pN + 1]? = some (x1N, .inl (cJ, 94, .inr (.inl fs3))) := gpN_1
          have gpN_2 : ws_16[pN + 2]? = some (x2N, .inl (cI, 800, .inl (fun jj => nI (fn3 jj)))) := gpN_2
          have hsel := hbl.2.2.1
          have gpN : ws_16[pN]? = some (aN, .inr (1, [.int (nI tN), .ref x1N, .ref x2N, .ref x3N, .ref x4N, .int (nI nuN), .int (nI ((insL (runB sh (spanL so wi (plainOf T))).2.1).length))])) := by rw [← hsel]; exact gpN
          have hfn4 : HdN fn3 (insL (runB sh (spanL so wi (plainOf T))).2.1) := by rw [← hsel]; exact hfn3
          have hSW : ShW ws_16 cI cJ cO ad s0 s1 s2 s3 (ca + 1) eh2 es er nd2 (dup dd2 tN ((pN, aN), (x1N, x2N, x3N, x4N), (nuN, (insL (runB sh (spanL so wi (plainOf T))).2.1).length), fs3, fn3, flN, fhN)) (HS ++ [tN]) SS2 RS := hSW.one htNl smF (fun k hk => by rw [← hdxN]; show pN ≤ k ∧ k < pN + 5; (try simp only at hk); omega) ⟨gpN, gpN_1, gpN_2, gpN_3, gpN_4⟩ (by rw [← hdxN])
          refine lv_iconst (v := nI 0) hx hb dX8_add_101 (by decide) ?_
          refine lv_istore (lv' := [(4, .int (nI 0)), (3, .ref aN), (2, .int (nI ((runB sh (spanL so wi (plainOf T))).2.1.length))), (1, .int (nI nm)), (0, .ref z0)]) hx hb dX8_add_102 hl (by decide) rfl (fun ls hl => ?_)
          have lp_104 : ∀ (fuel : Nat) (j : Nat) (fl1 : Nat → Nat), 64 - j < fuel → (j ≤ 64) → (∀ k, k < j → fl1 k = sgOf ta tb E (insL (runB sh (spanL so wi (plainOf T))).2.1) k) → ∀ (ws1 : va_W) (H : Heap) (locs : List Loc) (ls : Array Slot), Sm (fun k => k = 1 ∨ k = 3 ∨ k = 4 ∨ k = 5 ∨ k = 6 ∨ k = 7 ∨ k = 8 ∨ k = 9 ∨ k = 21 ∨ k = 32 ∨ k = 16 ∨ k = 17 ∨ k = 18 ∨ 51 ≤ k) ws ws1 → ws1[0]? = some (z0, .inr (9, [.ref a1, .ref t0, .ref d0, .ref s0, .ref e0, .ref k0, .ref al, .int (nI so), .int (nI wi)])) → ws1[1]? = some (a1, .inr (8, [.ref a2, .ref a3, .ref a4, .int (nI 0), .int (nI ((plainOf T).length)), .int (nI (pcnt so (plainOf T))), .int (nI so)])) → ws1[2]? = some (a2, .inl (cB, 800, .inl f)) → ws1[3]? = some (a3, .inl (cB, 800, .inl fq)) → ws1[4]? = some (a4, .inl (cI, 801, .inl (fun jj => nI (fs2 jj)))) → ws1[5]? = some (t0, .inr (7, [.ref t1, .ref t2, .ref t3, .ref t4, .int (nI ((runB sh (spanL so wi (plainOf T))).1.length))])) → ws1[6]? = some (t1, .inl (cB, 50000, .inl lf2)) → ws1[7]? = some (t2, .inl (cI, 6001, .inl (fun jj => nI (bf2 jj)))) → ws1[8]? = some (t3, .inl (cI, 6000, .inl (fun jj => nI (sf2 jj)))) → ws1[9]? = some (t4, .inl (cI, 16384, .inl (fun jj => nI (se2 jj)))) → ws1[10]? = some (d0, .inr (5, [.ref d1, .ref d2, .ref d3, .ref d4, .ref d5, .int (nI mv), .int (nI kp)])) → ws1[11]? = some (d1, .inl (cI, 64, .inl (fun jj => nI (ta jj)))) → ws1[12]? = some (d2, .inl (cI, 64, .inl (fun jj => nI (tb jj)))) → ws1[13]? = some (d3, .inl (cI, 64, .inl (fun jj => nI (cn jj)))) → ws1[14]? = some (d4, .inl (cI, 600, .inl (fun jj => nI (mk jj)))) → ws1[15]? = some (d5, .inl (cI, 600, .inl (fun jj => nI (my jj)))) → ws1[21]? = some (k0, .inr (2, [.ref k1, .ref k4, .ref k7, .ref k8, .ref k9, .ref k10, .int (nI plc), .int (nI kn)])) → ws1[32]? = some (al, .inl (cI, 800, .inl (fun jj => nI (fa2 jj)))) → ws1[pN]? = some (aN, .inr (1, [.int (nI tN), .ref x1N, .ref x2N, .ref x3N, .ref x4N, .int (nI nuN), .int (nI ((insL (runB sh (spanL so wi (plainOf T))).2.1).length))])) → ws1[pN + 1]? = some (x1N, .inl (cJ, 94, .inr (.inl fs3))) → ws1[pN + 2]? = some (x2N, .inl (cI, 800, .inl (fun jj => nI (fn3 jj)))) → ws1[pN + 3]? = some (x3N, .inl (cI, 64, .inl (fun jj => nI (fl1 jj)))) → ws1[pN + 4]? = some (x4N, .inl (cI, 48, .inl (fun jj => nI (fhN jj)))) → ws1[16]? = some (s0, .inr (6, [.ref s1, .ref s2, .ref s3, .int (nI (ca + 1))])) → (ShW ws1 cI cJ cO ad s0 s1 s2 s3 (ca + 1) eh2 es er nd2 (dup dd2 tN ((pN, aN), (x1N, x2N, x3N, x4N), (nuN, (insL (runB sh (spanL so wi (plainOf T))).2.1).length), fs3, fn3, fl1, fhN)) (HS ++ [tN]) SS2 RS) → va_P D vwCl ws1 H → va_D A ws1 → va_S A s.heap H locs → lv_has ls 5 [(0, .ref z0), (3, .ref aN), (4, .int (nI j))] → W p l e ({ frames := 8, cells := 6, slots := 1062, locals := 192 }) s m ([.ref z0] : List Value).toArray below meth c H locs 6 1062 (ZI D (TY cB cI cJ cO) (fun r ws' => ∃ pl2 : Nat, ∃ pc2 : Nat, ∃ gp2 : Nat, ∃ fq : Nat → Int32, ∃ fs2 : Nat → Nat, ∃ lf2 : Nat → Int32, ∃ bf2 : Nat → Nat, ∃ sf2 : Nat → Nat, ∃ se2 : Nat → Nat, ∃ fa2 : Nat → Nat, ∃ ca2 : Nat, ∃ eh2 : Nat, ∃ nd2 : Nat, ∃ de : Nat → DX, ∃ HS2 : List Nat, ∃ SS2 : List Nat, r = (bif adOkC so wi T sh HS ca then nI ca else -1) ∧ (StC (bif adOkC so wi T sh HS ca then (runB sh (spanL so wi (plainOf T))).1 else sh) lf2 bf2 sf2 se2) ∧ ((bif adOkC so wi T sh HS ca then (runB sh (spanL so wi (plainOf T))).1 else sh).length ≤ 6000 ∧ (bif adOkC so wi T sh HS ca then (runB sh (spanL so wi (plainOf T))).1 else sh).flatten.length ≤ 50000) ∧ (ShW ws' cI cJ cO ad s0 s1 s2 s3 ca2 eh2 es er nd2 de HS2 SS2 RS) ∧ (nd2 ≤ 48) ∧ (adOkC so wi T sh HS ca = false → ca2 = ca ∧ HS2 = HS ∧ de = dd) ∧ (adOkC so wi T sh HS ca = true → ca2 = ca + 1 ∧ ∃ t, HS2 = HS ++ [t] ∧ AddD dd de dL ta tb E HS t ca (insL (runB sh (spanL so wi (plainOf T))).2.1)) ∧ Sm (fun k => k = 1 ∨ k = 3 ∨ k = 4 ∨ k = 5 ∨ k = 6 ∨ k = 7 ∨ k = 8 ∨ k = 9 ∨ k = 21 ∨ k = 32 ∨ k = 16 ∨ k = 17 ∨ k = 18 ∨ 51 ≤ k) ws ws' ∧ ws'[1]? = some (a1, .inr (8, [.ref a2, .ref a3, .ref a4, .int (nI 0), .int (nI pl2), .int (nI pc2), .int (nI gp2)])) ∧ ws'[3]? = some (a3, .inl (cB, 800, .inl fq)) ∧ ws'[4]? = some (a4, .inl (cI, 801, .inl (fun jj => nI (fs2 jj)))) ∧ ws'[5]? = some (t0, .inr (7, [.ref t1, .ref t2, .ref t3, .ref t4, .int (nI ((bif adOkC so wi T sh HS ca then (runB sh (spanL so wi (plainOf T))).1 else sh).length))])) ∧ ws'[6]? = some (t1, .inl (cB, 50000, .inl lf2)) ∧ ws'[7]? = some (t2, .inl (cI, 6001, .inl (fun jj => nI (bf2 jj)))) ∧ ws'[8]? = some (t3, .inl (cI, 6000, .inl (fun jj => nI (sf2 jj)))) ∧ ws'[9]? = some (t4, .inl (cI, 16384, .inl (fun jj => nI (se2 jj)))) ∧ ws'[21]? = some (k0, .inr (2, [.ref k1, .ref k4, .ref k7, .ref k8, .ref k9, .ref k10, .int (nI plc), .int (nI (bif adOkC so wi T sh HS ca then 0 else kn))])) ∧ ws'[32]? = some (al, .inl (cI, 800, .inl (fun jj => nI (fa2 jj))))) below [.ref z0] s 6 1062 A) (F0 m 104 ls []) := by
            intro fuel
            induction fuel with
            | zero => intro j fl1 hfu; exact absurd hfu (Nat.not_lt_zero _)
            | succ fuel ih_104 =>
              intro j fl1 hfu_104 hj hfl ws1 H locs ls sm g0 g1 g2 g3 g4 g5 g6 g7 g8 g9 g10 g11 g12 g13 g14 g15 g21 g32 gpN gpN_1 gpN_2 gpN_3 gpN_4 g16 hSW hP hD hS hl
              refine lv_iload hx hb dX8_add_104 (lv_at hl 2 rfl) ?_
              refine lv_bipush (v := nI 64) hx hb dX8_add_106 (by decide) ?_
              refine nx_icmp_ge (tgt := 134) hx hb (by omega) (by decide) dX8_add_108 (by decide) (fun c_108 => ?_) (fun c_108 => ?_)
              · have hMM : ∀ t ∈ HS ++ [tN], SetB (dup dd2 tN ((pN, aN), (x1N, x2N, x3N, x4N), (nuN, (insL (runB sh (spanL so wi (plainOf T))).2.1).length), fs3, fn3, fl1, fhN) t).2.2.2.1 ((fun v => fun q => (if v = tN then insL (runB sh (spanL so wi (plainOf T))).2.1 else dL v).contains q) t) := fun t ht => by by_cases e9 : t = tN; {subst e9; rw [dup_self]; simp only [if_pos]; intro w hw i hi; show _ = (insL (runB sh (spanL so wi (plainOf T))).2.1).contains (64 * w + i); rw [cont_insL]; exact hsb w hw i hi}; {rw [dup_ne _ _ e9, hkp2 t ((List.mem_append.mp ht).elim id (fun h9 => absurd (List.mem_singleton.mp h9) e9))]; simp only [if_neg e9]; exact hMh t ((List.mem_append.mp ht).elim id (fun h9 => absurd (List.mem_singleton.mp h9) e9))}
                refine lv_aload_n hx hb dX8_add_134 rfl (lv_at hl 0 rfl) ?_
                refine va_get (D := D) (ci := 9) (v := .ref s0) (C := RX8) (T := TX8) (N := 9) hx hb hts hin_X8 hown hK hP 0 g0 rfl 3 (by decide) fl_33 (fun _ h9 => h9) rfl dX8_add_135 ?_
                refine lv_aload_n hx hb dX8_add_138 rfl (lv_at hl 1 rfl) ?_
                refine CV.go (va_runV (As := [.ref aN]) (rest := []) ⟨hx, hb, hml, hown, hts⟩ (c_X5_shareWithAll (tF := tN) (Mf := (fun v => fun q => (if v = tN then insL (runB sh (spanL so wi (plainOf T))).2.1 else dL v).contains q))  hSW hnd2 (by simp) (by rw [dup_self]) (fun t ht => hMM t ht) _) (cwV 1 hts gX8_add_X5_shareWithAll rfl rfl rfl (by decide +kernel) ⟨Nat.le_of_ble_eq_true rfl, Nat.le_of_ble_eq_true rfl⟩) ⟨pw_blind, va_recv hK hP (ci := 6) (q0 := 16) rfl g16, fun U hU hW => pw_pre hK hP hD hU hW⟩ rfl rfl hl.1 rfl (lv_room (Nat.le_of_ble_eq_true rfl)) dX8_add_139 ⟨Nat.le_of_ble_eq_true rfl, Nat.le_of_ble_eq_true rfl⟩) hD hS hA (fun ws_18 H locs hp hP hD hS => ?_)
                obtain ⟨hSW, smS⟩ := hp
                have g0 := smS.get g0 (by simp)
                have g1 := smS.get g1 (by simp)
                have g2 := smS.get g2 (by simp)
                have g3 := smS.get g3 (by simp)
                have g4 := smS.get g4 (by simp)
                have g5 := smS.get g5 (by simp)
                have g6 := smS.get g6 (by simp)
                have g7 := smS.get g7 (by simp)
                have g8 := smS.get g8 (by simp)
                have g9 := smS.get g9 (by simp)
                have g10 := smS.get g10 (by simp)
                have g11 := smS.get g11 (by simp)
                have g12 := smS.get g12 (by simp)
                have g13 := smS.get g13 (by simp)
                have g14 := smS.get g14 (by simp)
                have g15 := smS.get g15 (by simp)
                have g21 := smS.get g21 (by simp)
                have g32 := smS.get g32 (by simp)
                have g16 := smS.get g16 (by simp)
                have sm := sm.call smS (fun k hk => by (try simp only at hk ⊢); omega)
                refine lv_aload_n hx hb dX8_add_142 rfl (lv_at hl 0 rfl) ?_
                refine va_get (D := D) (ci := 9) (v := .ref k0) (C := RX8) (T := TX8) (N := 9) hx hb hts hin_X8 hown hK hP 0 g0 rfl 5 (by decide) fl_47 (fun _ h9 => h9) rfl dX8_add_143 ?_
                refine lv_iconst (v := nI 0) hx hb dX8_add_146 (by decide) ?_
                refine nx_put (D := D) (ci := 2) (v := .int (nI 0)) (ty := .boolean) (C := RX1) (T := TX1) (N := 8) hx hb hts hin_X1 tyX1 tyX1_ok nmX1 hown hK hP hD hS 21 g21 rfl 7 (by decide) fl_115 (fun _ h9 => h9) rfl (by decide +kernel) (by decide) (by decide) (Nat.le_of_ble_eq_true rfl) dX8_add_147 (fun ws_19 H locs gq up_20 hP hD hS => ?_)
                have g21 : ws_19[21]? = some (k0, .inr (2, [.ref k1, .ref k4, .ref k7, .ref k8, .ref k9, .ref k10, .int (nI plc), .int (nI 0)])) := gq
                have g0 := up_20.get g0 (by decide)
                have g1 := up_20.get g1 (by decide)
                have g2 := up_20.get g2 (by decide)
                have g3 := up_20.get g3 (by decide)
                have g4 := up_20.get g4 (by decide)
                have g5 := up_20.get g5 (by decide)
                have g6 := up_20.get g6 (by decide)
                have g7 := up_20.get g7 (by decide)
                have g8 := up_20.get g8 (by decide)
                have g9 := up_20.get g9 (by decide)
                have g10 := up_20.get g10 (by decide)
                have g11 := up_20.get g11 (by decide)
                have g12 := up_20.get g12 (by decide)
                have g13 := up_20.get g13 (by decide)
                have g14 := up_20.get g14 (by decide)
                have g15 := up_20.get g15 (by decide)
                have g32 := up_20.get g32 (by decide)
                have g16 := up_20.get g16 (by decide)
                have sm := sm.up up_20 (by first | (simp; done) | ((try simp only); omega))
                have hSW := hSW.low (K := fun k => k = 21) ⟨Nat.le_of_eq up_20.1.symm, fun k _ hn => up_20.2 k hn⟩ (fun k hk => by (try simp only at hk); omega)
                have hD59 := (hSW.2.2.2.2.1.1 tN htNl).1
                rw [shA_F, dup_self] at hD59
                have gpN : ws_19[pN]? = some (aN, .inr (1, [.int (nI tN), .ref x1N, .ref x2N, .ref x3N, .ref x4N, .int (nI nuN), .int (nI ((insL (runB sh (spanL so wi (plainOf T))).2.1).length))])) := hD59.1
                refine lv_aload_n hx hb dX8_add_150 rfl (lv_at hl 1 rfl) ?_
                refine va_get (D := D) (ci := 1) (v := .int (nI nuN)) (C := RX0) (T := TX0) (N := 7) hx hb hts hin_X0 hown hK hP pN gpN rfl 5 (by decide) fl_119 (fun _ h9 => h9) rfl dX8_add_151 ?_
                have hok : adOkC so wi T sh HS ca = true := by rw [adOkC, bool0 c_24, hb9]; rfl
                have hnu9 : nuN = ca := by have h9 := hnm2; rw [← hdxN] at h9; exact h9
                have g5 : ws_19[5]? = some (t0, .inr (7, [.ref t1, .ref t2, .ref t3, .ref t4, .int (nI ((bif adOkC so wi T sh HS ca then (runB sh (spanL so wi (plainOf T))).1 else sh).length))])) := by rw [hok]; exact g5
                have g21 : ws_19[21]? = some (k0, .inr (2, [.ref k1, .ref k4, .ref k7, .ref k8, .ref k9, .ref k10, .int (nI plc), .int (nI (bif adOkC so wi T sh HS ca then 0 else kn))])) := by rw [hok]; exact g21
                exact CI.ret (v := (nI nuN)) C hK hP hD hS rfl (⟨_, _, _, _, _, _, _, _, _, _, _, _, _, _, _, _, (by rw [hok, hnu9]; rfl), (by rw [hok]; exact hst2), (by rw [hok]; exact hbn), hSW, hnd2, (fun h9 => by rw [hok] at h9; cases h9), (fun _ => ⟨rfl, tN, rfl, add_fin hnu9 ⟨rfl, hfn4, hbl.2.2.2.1, hbl.2.2.2.2⟩ (fun w hw i hi => by show _ = (insL (runB sh (spanL so wi (plainOf T))).2.1).contains (64 * w + i); rw [cont_insL]; exact hsb w hw i hi) (fun k hk => hfl k (by omega)) hnt2 hkp2⟩), sm, g1, g3, g4, g5, g6, g7, g8, g9, g21, g32⟩) (by decide) (by decide) dX8_add_154
              · refine lv_aload_n hx hb dX8_add_111 rfl (lv_at hl 1 rfl) ?_
                refine va_get (D := D) (ci := 1) (v := .ref x3N) (C := RX0) (T := TX0) (N := 7) hx hb hts hin_X0 hown hK hP pN gpN rfl 3 (by decide) fl_104 (fun _ h9 => h9) rfl dX8_add_112 ?_
                refine lv_iload hx hb dX8_add_115 (lv_at hl 2 rfl) ?_
                refine lv_aload_n hx hb dX8_add_117 rfl (lv_at hl 0 rfl) ?_
                refine va_get (D := D) (ci := 9) (v := .ref d0) (C := RX8) (T := TX8) (N := 9) hx hb hts hin_X8 hown hK hP 0 g0 rfl 2 (by decide) fl_26 (fun _ h9 => h9) rfl dX8_add_118 ?_
                refine lv_aload_n hx hb dX8_add_121 rfl (lv_at hl 1 rfl) ?_
                refine lv_iload hx hb dX8_add_122 (lv_at hl 2 rfl) ?_
                refine CI.go (va_runV (As := [.ref aN, .int (nI j)]) (rest := [.int (nI j), .ref x3N]) ⟨hx, hb, hml, hown, hts⟩ (c_X4_leastOf (px := pN) g10 g11 g12 g13 g14 g15 gpN gpN_2 hHK hKl h600 hPC hta hE3 (by omega) hfn4 hbl.2.2.2.1 hbl.2.2.2.2 _) (cwV 2 hts gX8_add_X4_leastOf rfl rfl rfl (by decide +kernel) ⟨Nat.le_of_ble_eq_true rfl, Nat.le_of_ble_eq_true rfl⟩) ⟨pw_blind, va_recv hK hP (ci := 5) (q0 := 10) rfl g10, fun U hU hW => pw_pre hK hP hD hU hW⟩ rfl rfl hl.1 rfl (lv_room (Nat.le_of_ble_eq_true rfl)) dX8_add_124 ⟨Nat.le_of_ble_eq_true rfl, Nat.le_of_ble_eq_true rfl⟩) hD hS hA (fun r_21 ws_22 H locs hp hP hD hS => ?_)
                obtain ⟨rfl, rfl⟩ := hp
                refine nx_iastN hx hb hK hP hD hS (pN + 3) 1 gpN_3 rfl (k := j) (by omega) (by decide) dX8_add_127 (fun ws_23 H locs gq up_24 hP hD hS => ?_)
                have gpN_3 : ws_23[pN + 3]? = some (x3N, .inl (cI, 64, .inl (fun jj => nI ((va_up fl1 j (sgOf ta tb E (insL (runB sh (spanL so wi (plainOf T))).2.1) j)) jj)))) := gq
                have g0 := up_24.get g0 (by omega)
                have g1 := up_24.get g1 (by omega)
                have g2 := up_24.get g2 (by omega)
                have g3 := up_24.get g3 (by omega)
                have g4 := up_24.get g4 (by omega)
                have g5 := up_24.get g5 (by omega)
                have g6 := up_24.get g6 (by omega)
                have g7 := up_24.get g7 (by omega)
                have g8 := up_24.get g8 (by omega)
                have g9 := up_24.get g9 (by omega)
                have g10 := up_24.get g10 (by omega)
                have g11 := up_24.get g11 (by omega)
                have g12 := up_24.get g12 (by omega)
                have g13 := up_24.get g13 (by omega)
                have g14 := up_24.get g14 (by omega)
                have g15 := up_24.get g15 (by omega)
                have g21 := up_24.get g21 (by omega)
                have g32 := up_24.get g32 (by omega)
                have gpN := up_24.get gpN (by omega)
                have gpN_1 := up_24.get gpN_1 (by omega)
                have gpN_2 := up_24.get gpN_2 (by omega)
                have gpN_4 := up_24.get gpN_4 (by omega)
                have g16 := up_24.get g16 (by omega)
                have sm := sm.up up_24 (by first | (simp; done) | ((try simp only); omega))
                have hSW : ShW ws_23 cI cJ cO ad s0 s1 s2 s3 (ca + 1) eh2 es er nd2 (dup dd2 tN ((pN, aN), (x1N, x2N, x3N, x4N), (nuN, (insL (runB sh (spanL so wi (plainOf T))).2.1).length), fs3, fn3, (va_up fl1 j (sgOf ta tb E (insL (runB sh (spanL so wi (plainOf T))).2.1) j)), fhN)) (HS ++ [tN]) SS2 RS := by have h9 := hSW.up1 htNl up_24 (by rw [dup_self]; show pN ≤ pN + 3 ∧ pN + 3 < pN + 5; omega) (x := ((pN, aN), (x1N, x2N, x3N, x4N), (nuN, (insL (runB sh (spanL so wi (plainOf T))).2.1).length), fs3, fn3, (va_up fl1 j (sgOf ta tb E (insL (runB sh (spanL so wi (plainOf T))).2.1) j)), fhN)) ⟨gpN, gpN_1, gpN_2, gpN_3, gpN_4⟩ (by rw [dup_self]); rw [dup_dup] at h9; exact h9
                refine lv_iinc (v := (nI (j + 1))) (lv' := [(4, .int (nI (j + 1))), (0, .ref z0), (3, .ref aN)]) hx hb dX8_add_128 hl (k := 2) rfl (nx_inc _ 1) (by decide) rfl (fun ls hl => ?_)
                refine lv_goto (tgt := 104) hx hb dX8_add_131 (by decide) ?_
                exact ih_104 (j + 1) _ (by omega) (by omega) (lt_s (fun k hk => by rw [va_up_ne _ _ (by omega)]; exact hfl k hk) (va_up_self _ _ _)) _ _ _ _ sm g0 g1 g2 g3 g4 g5 g6 g7 g8 g9 g10 g11 g12 g13 g14 g15 g21 g32 gpN gpN_1 gpN_2 gpN_3 gpN_4 g16 hSW hP hD hS (lv_sub hl [1, 2, 0] rfl)
          exact lp_104 _ 0 flN (Nat.lt_succ_self _) (Nat.zero_le _) (fun k hk => absurd hk (Nat.not_lt_zero k)) _ _ _ _ sm g0 g1 g2 g3 g4 g5 g6 g7 g8 g9 g10 g11 g12 g13 g14 g15 g21 g32 gpN gpN_1 gpN_2 gpN_3 gpN_4 g16 hSW hP hD hS (lv_sub hl [4, 1, 0] rfl)
        · exact absurd c_64 (nI_nm1 (by omega))
    · refine lv_iconst (v := nI 1) hx hb dX8_add_41 (by decide) ?_
      refine lv_goto (tgt := 46) hx hb dX8_add_42 (by decide) ?_
      refine CV.go (va_runV (As := [.int (nI 1)]) (rest := []) ⟨hx, hb, hml, hown, hts⟩ (c_X7_markPieces  g1 g3 g4 (by decide) hq rfl hpl8 (plain_ok T).2 _) (cwV 1 hts gX8_add_X7_markPieces rfl rfl rfl (by decide +kernel) ⟨Nat.le_of_ble_eq_true rfl, Nat.le_of_ble_eq_true rfl⟩) ⟨pw_blind, va_recv hK hP (ci := 8) (q0 := 1) rfl g1, fun U hU hW => pw_pre hK hP hD hU hW⟩ rfl rfl hl.1 rfl (lv_room (Nat.le_of_ble_eq_true rfl)) dX8_add_46 ⟨Nat.le_of_ble_eq_true rfl, Nat.le_of_ble_eq_true rfl⟩) hD hS hA (fun ws_26 H locs hp hP hD hS => ?_)
      obtain ⟨fs2, hfs9, hfe9, smM, g1, g4⟩ := hp
      have g0 := smM.get g0 (by intro h9; first | (simp at h9; done) | ((try simp only at h9); omega))
      have g2 := smM.get g2 (by intro h9; first | (simp at h9; done) | ((try simp only at h9); omega))
      have g3 := smM.get g3 (by intro h9; first | (simp at h9; done) | ((try simp only at h9); omega))
      have g5 := smM.get g5 (by intro h9; first | (simp at h9; done) | ((try simp only at h9); omega))
      have g6 := smM.get g6 (by intro h9; first | (simp at h9; done) | ((try simp only at h9); omega))
      have g7 := smM.get g7 (by intro h9; first | (simp at h9; done) | ((try simp only at h9); omega))
      have g8 := smM.get g8 (by intro h9; first | (simp at h9; done) | ((try simp only at h9); omega))
      have g9 := smM.get g9 (by intro h9; first | (simp at h9; done) | ((try simp only at h9); omega))
      have g10 := smM.get g10 (by intro h9; first | (simp at h9; done) | ((try simp only at h9); omega))
      have g11 := smM.get g11 (by intro h9; first | (simp at h9; done) | ((try simp only at h9); omega))
      have g12 := smM.get g12 (by intro h9; first | (simp at h9; done) | ((try simp only at h9); omega))
      have g13 := smM.get g13 (by intro h9; first | (simp at h9; done) | ((try simp only at h9); omega))
      have g14 := smM.get g14 (by intro h9; first | (simp at h9; done) | ((try simp only at h9); omega))
      have g15 := smM.get g15 (by intro h9; first | (simp at h9; done) | ((try simp only at h9); omega))
      have g21 := smM.get g21 (by intro h9; first | (simp at h9; done) | ((try simp only at h9); omega))
      have g32 := smM.get g32 (by intro h9; first | (simp at h9; done) | ((try simp only at h9); omega))
      have g16 := smM.get g16 (by intro h9; first | (simp at h9; done) | ((try simp only at h9); omega))
      have sm := sm.call smM (by intro k hk; first | exact False.elim hk | ((try simp only at hk ⊢); omega))
      have g1 : ws_26[1]? = some (a1, .inr (8, [.ref a2, .ref a3, .ref a4, .int (nI 0), .int (nI (((plainOf T).length))), .int (nI (pcnt 1 (plainOf T))), .int (nI 1)])) := g1
      have g4 : ws_26[4]? = some (a4, .inl (cI, 801, .inl (fun jj => nI (fs2 jj)))) := g4
      have hsv : so = 1 := by omega
      have hfs : ∀ j, j < pcnt so (plainOf T) → fs2 j = stt so (plainOf T) j := by rw [hsv]; exact hfs9
      have hfe : fs2 (pcnt so (plainOf T)) = (plainOf T).length + so := by rw [hsv]; exact hfe9
      have hSW := hSW.low smM (fun k hk => by (try simp only at hk); omega)
      have g1 : ws_26[1]? = some (a1, .inr (8, [.ref a2, .ref a3, .ref a4, .int (nI 0), .int (nI ((plainOf T).length)), .int (nI (pcnt so (plainOf T))), .int (nI so)])) := by rw [hsv]; exact g1
      refine lv_aload_n hx hb dX8_add_49 rfl (lv_at hl 0 rfl) ?_
      refine va_get (D := D) (ci := 9) (v := .ref t0) (C := RX8) (T := TX8) (N := 9) hx hb hts hin_X8 hown hK hP 0 g0 rfl 1 (by decide) fl_19 (fun _ h9 => h9) rfl dX8_add_50 ?_
      refine va_get (D := D) (ci := 7) (v := .int (nI nm)) (C := RX6) (T := TX6) (N := 5) hx hb hts hin_X6 hown hK hP 5 g5 rfl 4 (by decide) fl_85 (fun _ h9 => h9) rfl dX8_add_53 ?_
      refine lv_istore_n (lv' := [(1, .int (nI nm)), (0, .ref z0)]) hx hb dX8_add_56 rfl hl (by decide) rfl (fun ls hl => ?_)
      refine lv_aload_n hx hb dX8_add_57 rfl (lv_at hl 1 rfl) ?_
      refine CI.go (va_runV (As := []) (rest := []) ⟨hx, hb, hml, hown, hts⟩ (c_X8_numberAlongText  g0 g1 g3 g4 g5 g6 g7 g8 g9 g32 hst hsn hn6 hby hs1 hw1 hw9 hq hpl8 (plain_ok T).1 (plain_ok T).2 hfs hfe _) (cwV 0 hts gX8_add_X8_numberAlongText rfl rfl rfl (by decide +kernel) ⟨Nat.le_of_ble_eq_true rfl, Nat.le_of_ble_eq_true rfl⟩) ⟨pw_blind, va_recv hK hP (ci := 9) (q0 := 0) rfl g0, fun U hU hW => pw_pre hK hP hD hU hW⟩ rfl rfl hl.1 rfl (lv_room (Nat.le_of_ble_eq_true rfl)) dX8_add_58 ⟨Nat.le_of_ble_eq_true rfl, Nat.le_of_ble_eq_true rfl⟩) hD hS hA (fun r_27 ws_28 H locs hp hP hD hS => ?_)
      obtain ⟨lf2, bf2, sf2, se2, fa2, rfl, hst2, hfa2, hok2, hbn, smA, g5, g6, g7, g8, g9, g32⟩ := hp
      have g0 := smA.get g0 (by intro h9; first | (simp at h9; done) | ((try simp only at h9); omega))
      have g1 := smA.get g1 (by intro h9; first | (simp at h9; done) | ((try simp only at h9); omega))
      have g2 := smA.get g2 (by intro h9; first | (simp at h9; done) | ((try simp only at h9); omega))
      have g3 := smA.get g3 (by intro h9; first | (simp at h9; done) | ((try simp only at h9); omega))
      have g4 := smA.get g4 (by intro h9; first | (simp at h9; done) | ((try simp only at h9); omega))
      have g10 := smA.get g10 (by intro h9; first | (simp at h9; done) | ((try simp only at h9); omega))
      have g11 := smA.get g11 (by intro h9; first | (simp at h9; done) | ((try simp only at h9); omega))
      have g12 := smA.get g12 (by intro h9; first | (simp at h9; done) | ((try simp only at h9); omega))
      have g13 := smA.get g13 (by intro h9; first | (simp at h9; done) | ((try simp only at h9); omega))
      have g14 := smA.get g14 (by intro h9; first | (simp at h9; done) | ((try simp only at h9); omega))
      have g15 := smA.get g15 (by intro h9; first | (simp at h9; done) | ((try simp only at h9); omega))
      have g21 := smA.get g21 (by intro h9; first | (simp at h9; done) | ((try simp only at h9); omega))
      have g16 := smA.get g16 (by intro h9; first | (simp at h9; done) | ((try simp only at h9); omega))
      have sm := sm.call smA (by intro k hk; first | exact False.elim hk | ((try simp only at hk ⊢); omega))
      have g5 : ws_28[5]? = some (t0, .inr (7, [.ref t1, .ref t2, .ref t3, .ref t4, .int (nI ((runB sh (spanL so wi (plainOf T))).1.length))])) := g5
      have g6 : ws_28[6]? = some (t1, .inl (cB, 50000, .inl lf2)) := g6
      have g7 : ws_28[7]? = some (t2, .inl (cI, 6001, .inl (fun jj => nI (bf2 jj)))) := g7
      have g8 : ws_28[8]? = some (t3, .inl (cI, 6000, .inl (fun jj => nI (sf2 jj)))) := g8
      have g9 : ws_28[9]? = some (t4, .inl (cI, 16384, .inl (fun jj => nI (se2 jj)))) := g9
      have g32 : ws_28[32]? = some (al, .inl (cI, 800, .inl (fun jj => nI (fa2 jj)))) := g32
      have hSW := hSW.low smA (fun k hk => by (try simp only at hk); omega)
      cases hb9 : (runB sh (spanL so wi (plainOf T))).2.2
      · rw [show (bif false then nI (spanL so wi (plainOf T)).length else (-1 : Int32)) = -1 from rfl]
        refine lv_istore_n (lv' := [(2, .int (-1)), (1, .int (nI nm)), (0, .ref z0)]) hx hb dX8_add_61 rfl hl (by decide) rfl (fun ls hl => ?_)
        refine lv_iload_n hx hb dX8_add_62 rfl (lv_at hl 0 rfl) ?_
        refine lv_iconst (v := -1) hx hb dX8_add_63 (by decide) ?_
        refine lv_icmp_ne (tgt := 77) hx hb dX8_add_64 (by decide) (fun c_64 => absurd (by decide) c_64) (fun c_64 => ?_)
        have hle9 : nm ≤ (runB sh (spanL so wi (plainOf T))).1.length := by obtain ⟨M9, hM9⟩ : ∃ M9, (runB sh (spanL so wi (plainOf T))).1 = sh ++ M9 := runB_pre; rw [hM9, List.length_append, hsn]; omega
        refine lv_aload_n hx hb dX8_add_67 rfl (lv_at hl 2 rfl) ?_
        refine va_get (D := D) (ci := 9) (v := .ref t0) (C := RX8) (T := TX8) (N := 9) hx hb hts hin_X8 hown hK hP 0 g0 rfl 1 (by decide) fl_19 (fun _ h9 => h9) rfl dX8_add_68 ?_
        refine lv_iload_n hx hb dX8_add_71 rfl (lv_at hl 1 rfl) ?_
        refine CV.go (va_runV (As := [.int (nI nm)]) (rest := []) ⟨hx, hb, hml, hown, hts⟩ (c_X6_forgetFrom  g5 g6 g7 g8 g9 hst2 rfl hbn.1 hbn.2 hle9 _) (cwV 1 hts gX8_add_X6_forgetFrom rfl rfl rfl (by decide +kernel) ⟨Nat.le_of_ble_eq_true rfl, Nat.le_of_ble_eq_true rfl⟩) ⟨pw_blind, va_recv hK hP (ci := 7) (q0 := 5) rfl g5, fun U hU hW => pw_pre hK hP hD hU hW⟩ rfl rfl hl.1 rfl (lv_room (Nat.le_of_ble_eq_true rfl)) dX8_add_72 ⟨Nat.le_of_ble_eq_true rfl, Nat.le_of_ble_eq_true rfl⟩) hD hS hA (fun ws_30 H locs hp hP hD hS => ?_)
        obtain ⟨se3, hst3, smM, g5, g9⟩ := hp
        have g0 := smM.get g0 (by intro h9; first | (simp at h9; done) | ((try simp only at h9); omega))
        have g1 := smM.get g1 (by intro h9; first | (simp at h9; done) | ((try simp only at h9); omega))
        have g2 := smM.get g2 (by intro h9; first | (simp at h9; done) | ((try simp only at h9); omega))
        have g3 := smM.get g3 (by intro h9; first | (simp at h9; done) | ((try simp only at h9); omega))
        have g4 := smM.get g4 (by intro h9; first | (simp at h9; done) | ((try simp only at h9); omega))
        have g6 := smM.get g6 (by intro h9; first | (simp at h9; done) | ((try simp only at h9); omega))
        have g7 := smM.get g7 (by intro h9; first | (simp at h9; done) | ((try simp only at h9); omega))
        have g8 := smM.get g8 (by intro h9; first | (simp at h9; done) | ((try simp only at h9); omega))
        have g10 := smM.get g10 (by intro h9; first | (simp at h9; done) | ((try simp only at h9); omega))
        have g11 := smM.get g11 (by intro h9; first | (simp at h9; done) | ((try simp only at h9); omega))
        have g12 := smM.get g12 (by intro h9; first | (simp at h9; done) | ((try simp only at h9); omega))
        have g13 := smM.get g13 (by intro h9; first | (simp at h9; done) | ((try simp only at h9); omega))
        have g14 := smM.get g14 (by intro h9; first | (simp at h9; done) | ((try simp only at h9); omega))
        have g15 := smM.get g15 (by intro h9; first | (simp at h9; done) | ((try simp only at h9); omega))
        have g21 := smM.get g21 (by intro h9; first | (simp at h9; done) | ((try simp only at h9); omega))
        have g32 := smM.get g32 (by intro h9; first | (simp at h9; done) | ((try simp only at h9); omega))
        have g16 := smM.get g16 (by intro h9; first | (simp at h9; done) | ((try simp only at h9); omega))
        have sm := sm.call smM (by intro k hk; first | exact False.elim hk | ((try simp only at hk ⊢); omega))
        have g5 : ws_30[5]? = some (t0, .inr (7, [.ref t1, .ref t2, .ref t3, .ref t4, .int (nI nm)])) := g5
        have g9 : ws_30[9]? = some (t4, .inl (cI, 16384, .inl (fun jj => nI (se3 jj)))) := g9
        have hSW := hSW.low smM (fun k hk => by (try simp only at hk); omega)
        refine lv_iconst (v := -1) hx hb dX8_add_75 (by decide) ?_
        have hno : adOkC so wi T sh HS ca = false := by rw [adOkC, hb9, Bool.and_false]
        have hst3 : StC sh lf2 bf2 sf2 se3 := by obtain ⟨M9, hM9⟩ : ∃ M9, (runB sh (spanL so wi (plainOf T))).1 = sh ++ M9 := runB_pre; rw [hM9, List.take_append_of_le_length (by omega), List.take_of_length_le (by omega)] at hst3; exact hst3
        have g5 : ws_30[5]? = some (t0, .inr (7, [.ref t1, .ref t2, .ref t3, .ref t4, .int (nI ((bif adOkC so wi T sh HS ca then (runB sh (spanL so wi (plainOf T))).1 else sh).length))])) := by rw [hno]; show _ = some (t0, (.inr (7, [.ref t1, .ref t2, .ref t3, .ref t4, .int (nI sh.length)]) : va_E)); rw [hsn]; exact g5
        have g21 : ws_30[21]? = some (k0, .inr (2, [.ref k1, .ref k4, .ref k7, .ref k8, .ref k9, .ref k10, .int (nI plc), .int (nI (bif adOkC so wi T sh HS ca then 0 else kn))])) := by rw [hno]; exact g21
        exact CI.ret (v := (-1)) C hK hP hD hS rfl (⟨_, _, _, _, _, _, _, _, _, _, _, _, _, _, _, _, (by rw [hno]; rfl), (by rw [hno]; exact hst3), (by rw [hno]; show sh.length ≤ 6000 ∧ sh.flatten.length ≤ 50000; exact ⟨by omega, hby⟩), hSW, hnd, (fun _ => ⟨rfl, rfl, rfl⟩), (fun h9 => by rw [hno] at h9; cases h9), sm, g1, g3, g4, g5, g6, g7, g8, g9, g21, g32⟩) hc0 hs0 dX8_add_76
      · have hbk := hok2 hb9
        have hbl := hbk.al (by have h9 := span_le (so := so) (wi := wi) (plain_ok T).2 hw1; omega)
        rw [show (bif true then nI (spanL so wi (plainOf T)).length else (-1 : Int32)) = nI (runB sh (spanL so wi (plainOf T))).2.1.length from by rw [hbk.2.2.1]; rfl]
        refine lv_istore_n (lv' := [(2, .int (nI ((runB sh (spanL so wi (plainOf T))).2.1.length))), (1, .int (nI nm)), (0, .ref z0)]) hx hb dX8_add_61 rfl hl (by decide) rfl (fun ls hl => ?_)
        refine lv_iload_n hx hb dX8_add_62 rfl (lv_at hl 0 rfl) ?_
        refine lv_iconst (v := -1) hx hb dX8_add_63 (by decide) ?_
        refine lv_icmp_ne (tgt := 77) hx hb dX8_add_64 (by decide) (fun c_64 => ?_) (fun c_64 => ?_)
        · refine lv_aload_n hx hb dX8_add_77 rfl (lv_at hl 2 rfl) ?_
          refine va_get (D := D) (ci := 9) (v := .ref s0) (C := RX8) (T := TX8) (N := 9) hx hb hts hin_X8 hown hK hP 0 g0 rfl 3 (by decide) fl_33 (fun _ h9 => h9) rfl dX8_add_78 ?_
          refine CQ.go (va_runV (As := []) (rest := []) ⟨hx, hb, hml, hown, hts⟩ (c_X5_takeNext   hSW hnd (by omega) _) (cwV 0 hts gX8_add_X5_takeNext rfl rfl rfl (by decide +kernel) ⟨Nat.le_of_ble_eq_true rfl, Nat.le_of_ble_eq_true rfl⟩) ⟨pwx_blind, va_recv hK hP (ci := 6) (q0 := 16) rfl g16, fun U hU hW => pwx_pre hX hA hS hK hP hD hU hW⟩ rfl rfl hl.1 rfl (lv_room (Nat.le_of_ble_eq_true rfl)) dX8_add_81 ⟨Nat.le_of_ble_eq_true rfl, Nat.le_of_ble_eq_true rfl⟩) hD hS hA (fun r_31 ws_32 H locs hp hP hD hS => ?_)
          obtain ⟨tN, dd2, nd2, SS2, eh2, rfl, hSW, hnm2, hkp2, hnt2, hnd2, smT⟩ := hp
          have g0 := smT.get g0 (by simp)
          have g1 := smT.get g1 (by simp)
          have g2 := smT.get g2 (by simp)
          have g3 := smT.get g3 (by simp)
          have g4 := smT.get g4 (by simp)
          have g5 := smT.get g5 (by simp)
          have g6 := smT.get g6 (by simp)
          have g7 := smT.get g7 (by simp)
          have g8 := smT.get g8 (by simp)
          have g9 := smT.get g9 (by simp)
          have g10 := smT.get g10 (by simp)
          have g11 := smT.get g11 (by simp)
          have g12 := smT.get g12 (by simp)
          have g13 := smT.get g13 (by simp)
          have g14 := smT.get g14 (by simp)
          have g15 := smT.get g15 (by simp)
          have g21 := smT.get g21 (by simp)
          have g32 := smT.get g32 (by simp)
          have sm := sm.call smT (fun k hk => by (try simp only at hk ⊢); omega)
          refine W.widen (k := 6) (n := 1062) (Nat.le_of_ble_eq_true rfl) (Nat.le_of_ble_eq_true rfl) ?_
          refine lv_astore_n (lv' := [(3, .ref ((dd2 tN).1.2)), (2, .int (nI ((runB sh (spanL so wi (plainOf T))).2.1.length))), (1, .int (nI nm)), (0, .ref z0)]) hx hb dX8_add_84 rfl hl (by decide) rfl (fun ls hl => ?_)
          obtain ⟨g16, hLh2, -, -, hDW2, hEd2, hNd2, hAll2, hndl2, hRS2, h512⟩ := id hSW
          have htNl : tN < nd2 := hAll2 tN (by simp)
          obtain ⟨⟨⟨pN, aN⟩, ⟨x1N, x2N, x3N, x4N⟩, ⟨nuN, zN⟩, fsN, fnN, flN, fhN⟩, hdxN⟩ : ∃ z : DX, z = dd2 tN := ⟨_, rfl⟩
          have hD5N := (hDW2.1 tN htNl).1
          have hP51N : 51 ≤ pN := by have h9 := (hDW2.1 tN htNl).2; rw [← hdxN] at h9; exact h9
          rw [← hdxN] at hD5N
          have gpN : ws_32[pN]? = some (aN, .inr (1, [.int (nI tN), .ref x1N, .ref x2N, .ref x3N, .ref x4N, .int (nI nuN), .int (nI zN)])) := hD5N.1
          have gpN_1 : ws_32[pN + 1]? = some (x1N, .inl (cJ, 94, .inr (.inl fsN))) := hD5N.2.1
          have gpN_2 : ws_32[pN + 2]? = some (x2N, .inl (cI, 800, .inl (fun jj => nI (fnN jj)))) := hD5N.2.2.1
          have gpN_3 : ws_32[pN + 3]? = some (x3N, .inl (cI, 64, .inl (fun jj => nI (flN jj)))) := hD5N.2.2.2.1
          have gpN_4 : ws_32[pN + 4]? = some (x4N, .inl (cI, 48, .inl (fun jj => nI (fhN jj)))) := hD5N.2.2.2.2
          have haN : (dd2 tN).1.2 = aN := by rw [← hdxN]
          have hl : lv_has ls 5 [(3, .ref aN), (2, .int (nI ((runB sh (spanL so wi (plainOf T))).2.1.length))), (1, .int (nI nm)), (0, .ref z0)] := by rw [← show (dd2 tN).1.2 = aN from haN]; exact hl
          refine lv_aload_n hx hb dX8_add_85 rfl (lv_at hl 0 rfl) ?_
          refine lv_aload_n hx hb dX8_add_86 rfl (lv_at hl 3 rfl) ?_
          refine va_get (D := D) (ci := 9) (v := .ref al) (C := RX8) (T := TX8) (N := 9) hx hb hts hin_X8 hown hK hP 0 g0 rfl 6 (by decide) fl_51 (fun _ h9 => h9) rfl dX8_add_87 ?_
          refine lv_iload_n hx hb dX8_add_90 rfl (lv_at hl 1 rfl) ?_
          refine lv_aload_n hx hb dX8_add_91 rfl (lv_at hl 3 rfl) ?_
          refine va_get (D := D) (ci := 9) (v := .ref t0) (C := RX8) (T := TX8) (N := 9) hx hb hts hin_X8 hown hK hP 0 g0 rfl 1 (by decide) fl_19 (fun _ h9 => h9) rfl dX8_add_92 ?_
          refine va_get (D := D) (ci := 7) (v := .int (nI ((runB sh (spanL so wi (plainOf T))).1.length))) (C := RX6) (T := TX6) (N := 5) hx hb hts hin_X6 hown hK hP 5 g5 rfl 4 (by decide) fl_85 (fun _ h9 => h9) rfl dX8_add_95 ?_
          refine CV.go (va_runV (As := [.ref al, .int (nI ((runB sh (spanL so wi (plainOf T))).2.1.length)), .int (nI ((runB sh (spanL so wi (plainOf T))).1.length))]) (rest := []) ⟨hx, hb, hml, hown, hts⟩ (c_X0_fillWith (px := pN) (A_ := (runB sh (spanL so wi (plainOf T))).2.1) gpN gpN_1 gpN_2 g32 (by omega) (hfa2 hb9) hbl.1 hbl.2.1 hbn.1 _) (cwV 3 hts gX8_add_X0_fillWith rfl rfl rfl (by decide +kernel) ⟨Nat.le_of_ble_eq_true rfl, Nat.le_of_ble_eq_true rfl⟩) ⟨pw_blind, va_recv hK hP (ci := 1) (q0 := pN) rfl gpN, fun U hU hW => pw_pre hK hP hD hU hW⟩ rfl rfl hl.1 rfl (lv_room (Nat.le_of_ble_eq_true rfl)) dX8_add_98 ⟨Nat.le_of_ble_eq_true rfl, Nat.le_of_ble_eq_true rfl⟩) hD hS hA (fun ws_34 H locs hp hP hD hS => ?_)
          obtain ⟨fs3, fn3, hsb, hfn3, smF, gpN, gpN_1, gpN_2⟩ := hp
          have g0 := smF.get g0 (by intro h9; first | (simp at h9; done) | ((try simp only at h9); omega))
          have g1 := smF.get g1 (by intro h9; first | (simp at h9; done) | ((try simp only at h9); omega))
          have g2 := smF.get g2 (by intro h9; first | (simp at h9; done) | ((try simp only at h9); omega))
          have g3 := smF.get g3 (by intro h9; first | (simp at h9; done) | ((try simp only at h9); omega))
          have g4 := smF.get g4 (by intro h9; first | (simp at h9; done) | ((try simp only at h9); omega))
          have g5 := smF.get g5 (by intro h9; first | (simp at h9; done) | ((try simp only at h9); omega))
          have g6 := smF.get g6 (by intro h9; first | (simp at h9; done) | ((try simp only at h9); omega))
          have g7 := smF.get g7 (by intro h9; first | (simp at h9; done) | ((try simp only at h9); omega))
          have g8 := smF.get g8 (by intro h9; first | (simp at h9; done) | ((try simp only at h9); omega))
          have g9 := smF.get g9 (by intro h9; first | (simp at h9; done) | ((try simp only at h9); omega))
          have g10 := smF.get g10 (by intro h9; first | (simp at h9; done) | ((try simp only at h9); omega))
          have g11 := smF.get g11 (by intro h9; first | (simp at h9; done) | ((try simp only at h9); omega))
          have g12 := smF.get g12 (by intro h9; first | (simp at h9; done) | ((try simp only at h9); omega))
          have g13 := smF.get g13 (by intro h9; first | (simp at h9; done) | ((try simp only at h9); omega))
          have g14 := smF.get g14 (by intro h9; first | (simp at h9; done) | ((try simp only at h9); omega))
          have g15 := smF.get g15 (by intro h9; first | (simp at h9; done) | ((try simp only at h9); omega))
          have g21 := smF.get g21 (by intro h9; first | (simp at h9; done) | ((try simp only at h9); omega))
          have g32 := smF.get g32 (by intro h9; first | (simp at h9; done) | ((try simp only at h9); omega))
          have gpN_3 := smF.get gpN_3 (by intro h9; first | (simp at h9; done) | ((try simp only at h9); omega))
          have gpN_4 := smF.get gpN_4 (by intro h9; first | (simp at h9; done) | ((try simp only at h9); omega))
          have g16 := smF.get g16 (by intro h9; first | (simp at h9; done) | ((try simp only at h9); omega))
          have sm := sm.call smF (by intro k hk; first | exact False.elim hk | ((try simp only at hk ⊢); omega))
          have gpN : ws_34[pN]? = some (aN, .inr (1, [.int (nI tN), .ref x1N, .ref x2N, .ref x3N, .ref x4N, .int (nI nuN), .int (nI ((selN ((runB sh (spanL so wi (plainOf T))).2.1) ((runB sh (spanL so wi (plainOf T))).1.length)).length))])) := gpN
          have gpN_1 : ws_34[pN + 1]? = some (x1N, .inl (cJ, 94, .inr (.inl fs3))) := gpN_1
          have gpN_2 : ws_34[pN + 2]? = some (x2N, .inl (cI, 800, .inl (fun jj => nI (fn3 jj)))) := gpN_2
          have hsel := hbl.2.2.1
          have gpN : ws_34[pN]? = some (aN, .inr (1, [.int (nI tN), .ref x1N, .ref x2N, .ref x3N, .ref x4N, .int (nI nuN), .int (nI ((insL (runB sh (spanL so wi (plainOf T))).2.1).length))])) := by rw [← hsel]; exact gpN
          have hfn4 : HdN fn3 (insL (runB sh (spanL so wi (plainOf T))).2.1) := by rw [← hsel]; exact hfn3
          have hSW : ShW ws_34 cI cJ cO ad s0 s1 s2 s3 (ca + 1) eh2 es er nd2 (dup dd2 tN ((pN, aN), (x1N, x2N, x3N, x4N), (nuN, (insL (runB sh (spanL so wi (plainOf T))).2.1).length), fs3, fn3, flN, fhN)) (HS ++ [tN]) SS2 RS := hSW.one htNl smF (fun k hk => by rw [← hdxN]; show pN ≤ k ∧ k < pN + 5; (try simp only at hk); omega) ⟨gpN, gpN_1, gpN_2, gpN_3, gpN_4⟩ (by rw [← hdxN])
          refine lv_iconst (v := nI 0) hx hb dX8_add_101 (by decide) ?_
          refine lv_istore (lv' := [(4, .int (nI 0)), (3, .ref aN), (2, .int (nI ((runB sh (spanL so wi (plainOf T))).2.1.length))), (1, .int (nI nm)), (0, .ref z0)]) hx hb dX8_add_102 hl (by decide) rfl (fun ls hl => ?_)
          have lp_104 : ∀ (fuel : Nat) (j : Nat) (fl1 : Nat → Nat), 64 - j < fuel → (j ≤ 64) → (∀ k, k < j → fl1 k = sgOf ta tb E (insL (runB sh (spanL so wi (plainOf T))).2.1) k) → ∀ (ws1 : va_W) (H : Heap) (locs : List Loc) (ls : Array Slot), Sm (fun k => k = 1 ∨ k = 3 ∨ k = 4 ∨ k = 5 ∨ k = 6 ∨ k = 7 ∨ k = 8 ∨ k = 9 ∨ k = 21 ∨ k = 32 ∨ k = 16 ∨ k = 17 ∨ k = 18 ∨ 51 ≤ k) ws ws1 → ws1[0]? = some (z0, .inr (9, [.ref a1, .ref t0, .ref d0, .ref s0, .ref e0, .ref k0, .ref al, .int (nI so), .int (nI wi)])) → ws1[1]? = some (a1, .inr (8, [.ref a2, .ref a3, .ref a4, .int (nI 0), .int (nI ((plainOf T).length)), .int (nI (pcnt so (plainOf T))), .int (nI so)])) → ws1[2]? = some (a2, .inl (cB, 800, .inl f)) → ws1[3]? = some (a3, .inl (cB, 800, .inl fq)) → ws1[4]? = some (a4, .inl (cI, 801, .inl (fun jj => nI (fs2 jj)))) → ws1[5]? = some (t0, .inr (7, [.ref t1, .ref t2, .ref t3, .ref t4, .int (nI ((runB sh (spanL so wi (plainOf T))).1.length))])) → ws1[6]? = some (t1, .inl (cB, 50000, .inl lf2)) → ws1[7]? = some (t2, .inl (cI, 6001, .inl (fun jj => nI (bf2 jj)))) → ws1[8]? = some (t3, .inl (cI, 6000, .inl (fun jj => nI (sf2 jj)))) → ws1[9]? = some (t4, .inl (cI, 16384, .inl (fun jj => nI (se2 jj)))) → ws1[10]? = some (d0, .inr (5, [.ref d1, .ref d2, .ref d3, .ref d4, .ref d5, .int (nI mv), .int (nI kp)])) → ws1[11]? = some (d1, .inl (cI, 64, .inl (fun jj => nI (ta jj)))) → ws1[12]? = some (d2, .inl (cI, 64, .inl (fun jj => nI (tb jj)))) → ws1[13]? = some (d3, .inl (cI, 64, .inl (fun jj => nI (cn jj)))) → ws1[14]? = some (d4, .inl (cI, 600, .inl (fun jj => nI (mk jj)))) → ws1[15]? = some (d5, .inl (cI, 600, .inl (fun jj => nI (my jj)))) → ws1[21]? = some (k0, .inr (2, [.ref k1, .ref k4, .ref k7, .ref k8, .ref k9, .ref k10, .int (nI plc), .int (nI kn)])) → ws1[32]? = some (al, .inl (cI, 800, .inl (fun jj => nI (fa2 jj)))) → ws1[pN]? = some (aN, .inr (1, [.int (nI tN), .ref x1N, .ref x2N, .ref x3N, .ref x4N, .int (nI nuN), .int (nI ((insL (runB sh (spanL so wi (plainOf T))).2.1).length))])) → ws1[pN + 1]? = some (x1N, .inl (cJ, 94, .inr (.inl fs3))) → ws1[pN + 2]? = some (x2N, .inl (cI, 800, .inl (fun jj => nI (fn3 jj)))) → ws1[pN + 3]? = some (x3N, .inl (cI, 64, .inl (fun jj => nI (fl1 jj)))) → ws1[pN + 4]? = some (x4N, .inl (cI, 48, .inl (fun jj => nI (fhN jj)))) → ws1[16]? = some (s0, .inr (6, [.ref s1, .ref s2, .ref s3, .int (nI (ca + 1))])) → (ShW ws1 cI cJ cO ad s0 s1 s2 s3 (ca + 1) eh2 es er nd2 (dup dd2 tN ((pN, aN), (x1N, x2N, x3N, x4N), (nuN, (insL (runB sh (spanL so wi (plainOf T))).2.1).length), fs3, fn3, fl1, fhN)) (HS ++ [tN]) SS2 RS) → va_P D vwCl ws1 H → va_D A ws1 → va_S A s.heap H locs → lv_has ls 5 [(0, .ref z0), (3, .ref aN), (4, .int (nI j))] → W p l e ({ frames := 8, cells := 6, slots := 1062, locals := 192 }) s m ([.ref z0] : List Value).toArray below meth c H locs 6 1062 (ZI D (TY cB cI cJ cO) (fun r ws' => ∃ pl2 : Nat, ∃ pc2 : Nat, ∃ gp2 : Nat, ∃ fq : Nat → Int32, ∃ fs2 : Nat → Nat, ∃ lf2 : Nat → Int32, ∃ bf2 : Nat → Nat, ∃ sf2 : Nat → Nat, ∃ se2 : Nat → Nat, ∃ fa2 : Nat → Nat, ∃ ca2 : Nat, ∃ eh2 : Nat, ∃ nd2 : Nat, ∃ de : Nat → DX, ∃ HS2 : List Nat, ∃ SS2 : List Nat, r = (bif adOkC so wi T sh HS ca then nI ca else -1) ∧ (StC (bif adOkC so wi T sh HS ca then (runB sh (spanL so wi (plainOf T))).1 else sh) lf2 bf2 sf2 se2) ∧ ((bif adOkC so wi T sh HS ca then (runB sh (spanL so wi (plainOf T))).1 else sh).length ≤ 6000 ∧ (bif adOkC so wi T sh HS ca then (runB sh (spanL so wi (plainOf T))).1 else sh).flatten.length ≤ 50000) ∧ (ShW ws' cI cJ cO ad s0 s1 s2 s3 ca2 eh2 es er nd2 de HS2 SS2 RS) ∧ (nd2 ≤ 48) ∧ (adOkC so wi T sh HS ca = false → ca2 = ca ∧ HS2 = HS ∧ de = dd) ∧ (adOkC so wi T sh HS ca = true → ca2 = ca + 1 ∧ ∃ t, HS2 = HS ++ [t] ∧ AddD dd de dL ta tb E HS t ca (insL (runB sh (spanL so wi (plainOf T))).2.1)) ∧ Sm (fun k => k = 1 ∨ k = 3 ∨ k = 4 ∨ k = 5 ∨ k = 6 ∨ k = 7 ∨ k = 8 ∨ k = 9 ∨ k = 21 ∨ k = 32 ∨ k = 16 ∨ k = 17 ∨ k = 18 ∨ 51 ≤ k) ws ws' ∧ ws'[1]? = some (a1, .inr (8, [.ref a2, .ref a3, .ref a4, .int (nI 0), .int (nI pl2), .int (nI pc2), .int (nI gp2)])) ∧ ws'[3]? = some (a3, .inl (cB, 800, .inl fq)) ∧ ws'[4]? = some (a4, .inl (cI, 801, .inl (fun jj => nI (fs2 jj)))) ∧ ws'[5]? = some (t0, .inr (7, [.ref t1, .ref t2, .ref t3, .ref t4, .int (nI ((bif adOkC so wi T sh HS ca then (runB sh (spanL so wi (plainOf T))).1 else sh).length))])) ∧ ws'[6]? = some (t1, .inl (cB, 50000, .inl lf2)) ∧ ws'[7]? = some (t2, .inl (cI, 6001, .inl (fun jj => nI (bf2 jj)))) ∧ ws'[8]? = some (t3, .inl (cI, 6000, .inl (fun jj => nI (sf2 jj)))) ∧ ws'[9]? = some (t4, .inl (cI, 16384, .inl (fun jj => nI (se2 jj)))) ∧ ws'[21]? = some (k0, .inr (2, [.ref k1, .ref k4, .ref k7, .ref k8, .ref k9, .ref k10, .int (nI plc), .int (nI (bif adOkC so wi T sh HS ca then 0 else kn))])) ∧ ws'[32]? = some (al, .inl (cI, 800, .inl (fun jj => nI (fa2 jj))))) below [.ref z0] s 6 1062 A) (F0 m 104 ls []) := by
            intro fuel
            induction fuel with
            | zero => intro j fl1 hfu; exact absurd hfu (Nat.not_lt_zero _)
            | succ fuel ih_104 =>
              intro j fl1 hfu_104 hj hfl ws1 H locs ls sm g0 g1 g2 g3 g4 g5 g6 g7 g8 g9 g10 g11 g12 g13 g14 g15 g21 g32 gpN gpN_1 gpN_2 gpN_3 gpN_4 g16 hSW hP hD hS hl
              refine lv_iload hx hb dX8_add_104 (lv_at hl 2 rfl) ?_
              refine lv_bipush (v := nI 64) hx hb dX8_add_106 (by decide) ?_
              refine nx_icmp_ge (tgt := 134) hx hb (by omega) (by decide) dX8_add_108 (by decide) (fun c_108 => ?_) (fun c_108 => ?_)
              · have hMM : ∀ t ∈ HS ++ [tN], SetB (dup dd2 tN ((pN, aN), (x1N, x2N, x3N, x4N), (nuN, (insL (runB sh (spanL so wi (plainOf T))).2.1).length), fs3, fn3, fl1, fhN) t).2.2.2.1 ((fun v => fun q => (if v = tN then insL (runB sh (spanL so wi (plainOf T))).2.1 else dL v).contains q) t) := fun t ht => by by_cases e9 : t = tN; {subst e9; rw [dup_self]; simp only [if_pos]; intro w hw i hi; show _ = (insL (runB sh (spanL so wi (plainOf T))).2.1).contains (64 * w + i); rw [cont_insL]; exact hsb w hw i hi}; {rw [dup_ne _ _ e9, hkp2 t ((List.mem_append.mp ht).elim id (fun h9 => absurd (List.mem_singleton.mp h9) e9))]; simp only [if_neg e9]; exact hMh t ((List.mem_append.mp ht).elim id (fun h9 => absurd (List.mem_singleton.mp h9) e9))}
                refine lv_aload_n hx hb dX8_add_134 rfl (lv_at hl 0 rfl) ?_
                refine va_get (D := D) (ci := 9) (v := .ref s0) (C := RX8) (T := TX8) (N := 9) hx hb hts hin_X8 hown hK hP 0 g0 rfl 3 (by decide) fl_33 (fun _ h9 => h9) rfl dX8_add_135 ?_
                refine lv_aload_n hx hb dX8_add_138 rfl (lv_at hl 1 rfl) ?_
                refine CV.go (va_runV (As := [.ref aN]) (rest := []) ⟨hx, hb, hml, hown, hts⟩ (c_X5_shareWithAll (tF := tN) (Mf := (fun v => fun q => (if v = tN then insL (runB sh (spanL so wi (plainOf T))).2.1 else dL v).contains q))  hSW hnd2 (by simp) (by rw [dup_self]) (fun t ht => hMM t ht) _) (cwV 1 hts gX8_add_X5_shareWithAll rfl rfl rfl (by decide +kernel) ⟨Nat.le_of_ble_eq_true rfl, Nat.le_of_ble_eq_true rfl⟩) ⟨pw_blind, va_recv hK hP (ci := 6) (q0 := 16) rfl g16, fun U hU hW => pw_pre hK hP hD hU hW⟩ rfl rfl hl.1 rfl (lv_room (Nat.le_of_ble_eq_true rfl)) dX8_add_139 ⟨Nat.le_of_ble_eq_true rfl, Nat.le_of_ble_eq_true rfl⟩) hD hS hA (fun ws_36 H locs hp hP hD hS => ?_)
                obtain ⟨hSW, smS⟩ := hp
                have g0 := smS.get g0 (by simp)
                have g1 := smS.get g1 (by simp)
                have g2 := smS.get g2 (by simp)
                have g3 := smS.get g3 (by simp)
                have g4 := smS.get g4 (by simp)
                have g5 := smS.get g5 (by simp)
                have g6 := smS.get g6 (by simp)
                have g7 := smS.get g7 (by simp)
                have g8 := smS.get g8 (by simp)
                have g9 := smS.get g9 (by simp)
                have g10 := smS.get g10 (by simp)
                have g11 := smS.get g11 (by simp)
                have g12 := smS.get g12 (by simp)
                have g13 := smS.get g13 (by simp)
                have g14 := smS.get g14 (by simp)
                have g15 := smS.get g15 (by simp)
                have g21 := smS.get g21 (by simp)
                have g32 := smS.get g32 (by simp)
                have g16 := smS.get g16 (by simp)
                have sm := sm.call smS (fun k hk => by (try simp only at hk ⊢); omega)
                refine lv_aload_n hx hb dX8_add_142 rfl (lv_at hl 0 rfl) ?_
                refine va_get (D := D) (ci := 9) (v := .ref k0) (C := RX8) (T := TX8) (N := 9) hx hb hts hin_X8 hown hK hP 0 g0 rfl 5 (by decide) fl_47 (fun _ h9 => h9) rfl dX8_add_143 ?_
                refine lv_iconst (v := nI 0) hx hb dX8_add_146 (by decide) ?_
                refine nx_put (D := D) (ci := 2) (v := .int (nI 0)) (ty := .boolean) (C := RX1) (T := TX1) (N := 8) hx hb hts hin_X1 tyX1 tyX1_ok nmX1 hown hK hP hD hS 21 g21 rfl 7 (by decide) fl_115 (fun _ h9 => h9) rfl (by decide +kernel) (by decide) (by decide) (Nat.le_of_ble_eq_true rfl) dX8_add_147 (fun ws_37 H locs gq up_38 hP hD hS => ?_)
                have g21 : ws_37[21]? = some (k0, .inr (2, [.ref k1, .ref k4, .ref k7, .ref k8, .ref k9, .ref k10, .int (nI plc), .int (nI 0)])) := gq
                have g0 := up_38.get g0 (by decide)
                have g1 := up_38.get g1 (by decide)
                have g2 := up_38.get g2 (by decide)
                have g3 := up_38.get g3 (by decide)
                have g4 := up_38.get g4 (by decide)
                have g5 := up_38.get g5 (by decide)
                have g6 := up_38.get g6 (by decide)
                have g7 := up_38.get g7 (by decide)
                have g8 := up_38.get g8 (by decide)
                have g9 := up_38.get g9 (by decide)
                have g10 := up_38.get g10 (by decide)
                have g11 := up_38.get g11 (by decide)
                have g12 := up_38.get g12 (by decide)
                have g13 := up_38.get g13 (by decide)
                have g14 := up_38.get g14 (by decide)
                have g15 := up_38.get g15 (by decide)
                have g32 := up_38.get g32 (by decide)
                have g16 := up_38.get g16 (by decide)
                have sm := sm.up up_38 (by first | (simp; done) | ((try simp only); omega))
                have hSW := hSW.low (K := fun k => k = 21) ⟨Nat.le_of_eq up_38.1.symm, fun k _ hn => up_38.2 k hn⟩ (fun k hk => by (try simp only at hk); omega)
                have hD59 := (hSW.2.2.2.2.1.1 tN htNl).1
                rw [shA_F, dup_self] at hD59
                have gpN : ws_37[pN]? = some (aN, .inr (1, [.int (nI tN), .ref x1N, .ref x2N, .ref x3N, .ref x4N, .int (nI nuN), .int (nI ((insL (runB sh (spanL so wi (plainOf T))).2.1).length))])) := hD59.1
                refine lv_aload_n hx hb dX8_add_150 rfl (lv_at hl 1 rfl) ?_
                refine va_get (D := D) (ci := 1) (v := .int (nI nuN)) (C := RX0) (T := TX0) (N := 7) hx hb hts hin_X0 hown hK hP pN gpN rfl 5 (by decide) fl_119 (fun _ h9 => h9) rfl dX8_add_151 ?_
                have hok : adOkC so wi T sh HS ca = true := by rw [adOkC, bool0 c_24, hb9]; rfl
                have hnu9 : nuN = ca := by have h9 := hnm2; rw [← hdxN] at h9; exact h9
                have g5 : ws_37[5]? = some (t0, .inr (7, [.ref t1, .ref t2, .ref t3, .ref t4, .int (nI ((bif adOkC so wi T sh HS ca then (runB sh (spanL so wi (plainOf T))).1 else sh).length))])) := by rw [hok]; exact g5
                have g21 : ws_37[21]? = some (k0, .inr (2, [.ref k1, .ref k4, .ref k7, .ref k8, .ref k9, .ref k10, .int (nI plc), .int (nI (bif adOkC so wi T sh HS ca then 0 else kn))])) := by rw [hok]; exact g21
                exact CI.ret (v := (nI nuN)) C hK hP hD hS rfl (⟨_, _, _, _, _, _, _, _, _, _, _, _, _, _, _, _, (by rw [hok, hnu9]; rfl), (by rw [hok]; exact hst2), (by rw [hok]; exact hbn), hSW, hnd2, (fun h9 => by rw [hok] at h9; cases h9), (fun _ => ⟨rfl, tN, rfl, add_fin hnu9 ⟨rfl, hfn4, hbl.2.2.2.1, hbl.2.2.2.2⟩ (fun w hw i hi => by show _ = (insL (runB sh (spanL so wi (plainOf T))).2.1).contains (64 * w + i); rw [cont_insL]; exact hsb w hw i hi) (fun k hk => hfl k (by omega)) hnt2 hkp2⟩), sm, g1, g3, g4, g5, g6, g7, g8, g9, g21, g32⟩) (by decide) (by decide) dX8_add_154
              · refine lv_aload_n hx hb dX8_add_111 rfl (lv_at hl 1 rfl) ?_
                refine va_get (D := D) (ci := 1) (v := .ref x3N) (C := RX0) (T := TX0) (N := 7) hx hb hts hin_X0 hown hK hP pN gpN rfl 3 (by decide) fl_104 (fun _ h9 => h9) rfl dX8_add_112 ?_
                refine lv_iload hx hb dX8_add_115 (lv_at hl 2 rfl) ?_
                refine lv_aload_n hx hb dX8_add_117 rfl (lv_at hl 0 rfl) ?_
                refine va_get (D := D) (ci := 9) (v := .ref d0) (C := RX8) (T := TX8) (N := 9) hx hb hts hin_X8 hown hK hP 0 g0 rfl 2 (by decide) fl_26 (fun _ h9 => h9) rfl dX8_add_118 ?_
                refine lv_aload_n hx hb dX8_add_121 rfl (lv_at hl 1 rfl) ?_
                refine lv_iload hx hb dX8_add_122 (lv_at hl 2 rfl) ?_
                refine CI.go (va_runV (As := [.ref aN, .int (nI j)]) (rest := [.int (nI j), .ref x3N]) ⟨hx, hb, hml, hown, hts⟩ (c_X4_leastOf (px := pN) g10 g11 g12 g13 g14 g15 gpN gpN_2 hHK hKl h600 hPC hta hE3 (by omega) hfn4 hbl.2.2.2.1 hbl.2.2.2.2 _) (cwV 2 hts gX8_add_X4_leastOf rfl rfl rfl (by decide +kernel) ⟨Nat.le_of_ble_eq_true rfl, Nat.le_of_ble_eq_true rfl⟩) ⟨pw_blind, va_recv hK hP (ci := 5) (q0 := 10) rfl g10, fun U hU hW => pw_pre hK hP hD hU hW⟩ rfl rfl hl.1 rfl (lv_room (Nat.le_of_ble_eq_true rfl)) dX8_add_124 ⟨Nat.le_of_ble_eq_true rfl, Nat.le_of_ble_eq_true rfl⟩) hD hS hA (fun r_39 ws_40 H locs hp hP hD hS => ?_)
                obtain ⟨rfl, rfl⟩ := hp
                refine nx_iastN hx hb hK hP hD hS (pN + 3) 1 gpN_3 rfl (k := j) (by omega) (by decide) dX8_add_127 (fun ws_41 H locs gq up_42 hP hD hS => ?_)
                have gpN_3 : ws_41[pN + 3]? = some (x3N, .inl (cI, 64, .inl (fun jj => nI ((va_up fl1 j (sgOf ta tb E (insL (runB sh (spanL so wi (plainOf T))).2.1) j)) jj)))) := gq
                have g0 := up_42.get g0 (by omega)
                have g1 := up_42.get g1 (by omega)
                have g2 := up_42.get g2 (by omega)
                have g3 := up_42.get g3 (by omega)
                have g4 := up_42.get g4 (by omega)
                have g5 := up_42.get g5 (by omega)
                have g6 := up_42.get g6 (by omega)
                have g7 := up_42.get g7 (by omega)
                have g8 := up_42.get g8 (by omega)
                have g9 := up_42.get g9 (by omega)
                have g10 := up_42.get g10 (by omega)
                have g11 := up_42.get g11 (by omega)
                have g12 := up_42.get g12 (by omega)
                have g13 := up_42.get g13 (by omega)
                have g14 := up_42.get g14 (by omega)
                have g15 := up_42.get g15 (by omega)
                have g21 := up_42.get g21 (by omega)
                have g32 := up_42.get g32 (by omega)
                have gpN := up_42.get gpN (by omega)
                have gpN_1 := up_42.get gpN_1 (by omega)
                have gpN_2 := up_42.get gpN_2 (by omega)
                have gpN_4 := up_42.get gpN_4 (by omega)
                have g16 := up_42.get g16 (by omega)
                have sm := sm.up up_42 (by first | (simp; done) | ((try simp only); omega))
                have hSW : ShW ws_41 cI cJ cO ad s0 s1 s2 s3 (ca + 1) eh2 es er nd2 (dup dd2 tN ((pN, aN), (x1N, x2N, x3N, x4N), (nuN, (insL (runB sh (spanL so wi (plainOf T))).2.1).length), fs3, fn3, (va_up fl1 j (sgOf ta tb E (insL (runB sh (spanL so wi (plainOf T))).2.1) j)), fhN)) (HS ++ [tN]) SS2 RS := by have h9 := hSW.up1 htNl up_42 (by rw [dup_self]; show pN ≤ pN + 3 ∧ pN + 3 < pN + 5; omega) (x := ((pN, aN), (x1N, x2N, x3N, x4N), (nuN, (insL (runB sh (spanL so wi (plainOf T))).2.1).length), fs3, fn3, (va_up fl1 j (sgOf ta tb E (insL (runB sh (spanL so wi (plainOf T))).2.1) j)), fhN)) ⟨gpN, gpN_1, gpN_2, gpN_3, gpN_4⟩ (by rw [dup_self]); rw [dup_dup] at h9; exact h9
                refine lv_iinc (v := (nI (j + 1))) (lv' := [(4, .int (nI (j + 1))), (0, .ref z0), (3, .ref aN)]) hx hb dX8_add_128 hl (k := 2) rfl (nx_inc _ 1) (by decide) rfl (fun ls hl => ?_)
                refine lv_goto (tgt := 104) hx hb dX8_add_131 (by decide) ?_
                exact ih_104 (j + 1) _ (by omega) (by omega) (lt_s (fun k hk => by rw [va_up_ne _ _ (by omega)]; exact hfl k hk) (va_up_self _ _ _)) _ _ _ _ sm g0 g1 g2 g3 g4 g5 g6 g7 g8 g9 g10 g11 g12 g13 g14 g15 g21 g32 gpN gpN_1 gpN_2 gpN_3 gpN_4 g16 hSW hP hD hS (lv_sub hl [1, 2, 0] rfl)
          exact lp_104 _ 0 flN (Nat.lt_succ_self _) (Nat.zero_le _) (fun k hk => absurd hk (Nat.not_lt_zero k)) _ _ _ _ sm g0 g1 g2 g3 g4 g5 g6 g7 g8 g9 g10 g11 g12 g13 g14 g15 g21 g32 gpN gpN_1 gpN_2 gpN_3 gpN_4 g16 hSW hP hD hS (lv_sub hl [4, 1, 0] rfl)
        · exact absurd c_64 (nI_nm1 (by omega))
  · refine lv_iconst (v := -1) hx hb dX8_add_27 (by decide) ?_
    have hno : adOkC so wi T sh HS ca = false := by rw [adOkC, bool1 c_24]; rfl
    have g5 : ws_4[5]? = some (t0, .inr (7, [.ref t1, .ref t2, .ref t3, .ref t4, .int (nI ((bif adOkC so wi T sh HS ca then (runB sh (spanL so wi (plainOf T))).1 else sh).length))])) := by rw [hno]; show _ = some (t0, (.inr (7, [.ref t1, .ref t2, .ref t3, .ref t4, .int (nI sh.length)]) : va_E)); rw [hsn]; exact g5
    have g21 : ws_4[21]? = some (k0, .inr (2, [.ref k1, .ref k4, .ref k7, .ref k8, .ref k9, .ref k10, .int (nI plc), .int (nI (bif adOkC so wi T sh HS ca then 0 else kn))])) := by rw [hno]; exact g21
    exact CI.ret (v := (-1)) C hK hP hD hS rfl (⟨_, _, _, _, _, _, _, _, _, _, _, _, _, _, _, _, (by rw [hno]; rfl), (by rw [hno]; exact hst), (by rw [hno]; show sh.length ≤ 6000 ∧ sh.flatten.length ≤ 50000; exact ⟨by omega, hby⟩), hSW, hnd, (fun _ => ⟨rfl, rfl, rfl⟩), (fun h9 => by rw [hno] at h9; cases h9), sm, g1, g3, g4, g5, g6, g7, g8, g9, g21, g32⟩) hc0 hs0 dX8_add_28
