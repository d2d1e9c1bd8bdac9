set_option maxHeartbeats 4000000 in
set_option maxRecDepth 100000 in
theorem c_X8_numberAlongText {D : va_G} {cB cI cJ cO : ClassId} {l : Launch} {z0 a1 t0 d0 s0 e0 k0 al so wi : Nat} {a2 a3 a4 len pl : Nat} {t1 t2 t3 t4 nm : Nat} {lf : Nat → Int32} {bf sf se : Nat → Nat} {sh : List (List Int32)} {fp : Nat → Int32} {fs fa_ : Nat → Nat} {P : List Int32} {ws : va_W} (g0 : ws[0]? = some (z0, .inr (9, [.ref a1, .ref t0, .ref d0, .ref s0, .ref e0, .ref k0, .ref al, .int (nI so), .int (nI wi)]))) (g1 : ws[1]? = some (a1, .inr (8, [.ref a2, .ref a3, .ref a4, .int (nI len), .int (nI pl), .int (nI (pcnt so P)), .int (nI so)]))) (g3 : ws[3]? = some (a3, .inl (cB, 800, .inl fp))) (g4 : ws[4]? = some (a4, .inl (cI, 801, .inl (fun jj => nI (fs jj))))) (g5 : ws[5]? = some (t0, .inr (7, [.ref t1, .ref t2, .ref t3, .ref t4, .int (nI nm)]))) (g6 : ws[6]? = some (t1, .inl (cB, 50000, .inl lf))) (g7 : ws[7]? = some (t2, .inl (cI, 6001, .inl (fun jj => nI (bf jj))))) (g8 : ws[8]? = some (t3, .inl (cI, 6000, .inl (fun jj => nI (sf jj))))) (g9 : ws[9]? = some (t4, .inl (cI, 16384, .inl (fun jj => nI (se jj))))) (g32 : ws[32]? = some (al, .inl (cI, 800, .inl (fun jj => nI (fa_ jj))))) (hst : StC sh lf bf sf se) (hsn : sh.length = nm) (hn6 : nm ≤ 6000) (hby : sh.flatten.length ≤ 50000) (hs1 : so ≤ 1) (hw1 : 1 ≤ wi) (hw9 : wi ≤ 9) (hPf : Hd fp P) (hP8 : P.length ≤ 800) (hPb : ∀ x ∈ P, x.toInt8.toInt32 = x) (hPe : LastOK P) (hfs : ∀ j, j < pcnt so P → fs j = stt so P j) (hfe : fs (pcnt so P) = P.length + so) : CI D (TY cB cI cJ cO) l yX8_numberAlongText wsX8_numberAlongText ({ frames := 2, cells := 0, slots := 0, locals := 52 }) [.ref z0] ws (fun r ws' => ∃ lf2 : Nat → Int32, ∃ bf2 : Nat → Nat, ∃ sf2 : Nat → Nat, ∃ se2 : Nat → Nat, ∃ fa2 : Nat → Nat, r = (bif (runB sh (spanL so wi P)).2.2 then nI (spanL so wi P).length else -1) ∧ (StC (runB sh (spanL so wi P)).1 lf2 bf2 sf2 se2) ∧ ((runB sh (spanL so wi P)).2.2 = true → HdN fa2 (runB sh (spanL so wi P)).2.1) ∧ ((runB sh (spanL so wi P)).2.2 = true → BOk (runB sh (spanL so wi P)).1 (runB sh (spanL so wi P)).2.1 (spanL so wi P).length) ∧ ((runB sh (spanL so wi P)).1.length ≤ 6000 ∧ (runB sh (spanL so wi P)).1.flatten.length ≤ 50000) ∧ Sm (fun k => k = 5 ∨ k = 6 ∨ k = 7 ∨ k = 8 ∨ k = 9 ∨ k = 32) ws ws' ∧ ws'[5]? = some (t0, .inr (7, [.ref t1, .ref t2, .ref t3, .ref t4, .int (nI ((runB sh (spanL so wi P)).1.length))])) ∧ ws'[6]? = some (t1, .inl (cB, 50000, .inl lf2)) ∧ ws'[7]? = some (t2, .inl (cI, 6001, .inl (fun jj => nI (bf2 jj)))) ∧ ws'[8]? = some (t3, .inl (cI, 6000, .inl (fun jj => nI (sf2 jj)))) ∧ ws'[9]? = some (t4, .inl (cI, 16384, .inl (fun jj => nI (se2 jj)))) ∧ ws'[32]? = some (al, .inl (cI, 800, .inl (fun jj => nI (fa2 jj))))) := by
  refine CI.of (cc := cX8_numberAlongText) (maxL := 4) (ret := (some .int)) (by decide) rfl (Nat.le_of_ble_eq_true rfl) ?_
  intro p e s m below meth c A C hK hP hD hA hS ls hl
  obtain ⟨hx, hb, hr, hml, hts, hown, hlocks, hnm⟩ := id C
  have fl_12 := hts (.fieldLink RX8 12 "TwinFinder" "tape" "LTwinFinder$Tape;") (by decide +kernel)
  have fl_19 := hts (.fieldLink RX8 19 "TwinFinder" "store" "LTwinFinder$Store;") (by decide +kernel)
  have fl_51 := hts (.fieldLink RX8 51 "TwinFinder" "along" "[I") (by decide +kernel)
  have fl_59 := hts (.fieldLink RX8 59 "TwinFinder" "rowAtHand" "I") (by decide +kernel)
  have fl_270 := hts (.fieldLink RX8 270 "TwinFinder$Tape" "pieces" "I") (by decide +kernel)
  have fl_278 := hts (.fieldLink RX8 278 "TwinFinder$Tape" "plain" "[B") (by decide +kernel)
  have fl_282 := hts (.fieldLink RX8 282 "TwinFinder$Tape" "start" "[I") (by decide +kernel)
  have fl_285 := hts (.fieldLink RX8 285 "TwinFinder$Tape" "gap" "I") (by decide +kernel)
  have hin_X7 : ∀ w ∈ u_ws RX7 TX7 7, w ∈ wsX8_numberAlongText := by decide +kernel
  have hin_X8 : ∀ w ∈ u_ws RX8 TX8 9, w ∈ wsX8_numberAlongText := by decide +kernel
  have hl : lv_has ls 4 [(0, .ref z0)] := hl
  have sm : Sm (fun k => k = 5 ∨ k = 6 ∨ k = 7 ∨ k = 8 ∨ k = 9 ∨ k = 32) ws ws := Sm.rf
  have hc0 : (0 : Nat) ≤ 0 := by decide
  have hs0 : (0 : Nat) ≤ 0 := by decide
  have hsl := span_len (so := so) (wi := wi) (P := P)
  have hpl := pcnt_le (so := so) hPe
  refine lv_iconst (v := nI 0) hx hb dX8_numberAlongText_0 (by decide) ?_
  refine lv_aload_n hx hb dX8_numberAlongText_1 rfl (lv_at hl 0 rfl) ?_
  refine va_get (D := D) (ci := 9) (v := .ref a1) (C := RX8) (T := TX8) (N := 9) hx hb hts hin_X8 hown hK hP 0 g0 rfl 0 (by decide) fl_12 (fun _ h9 => h9) rfl dX8_numberAlongText_2 ?_
  refine va_get (D := D) (ci := 8) (v := .int (nI (pcnt so P))) (C := RX7) (T := TX7) (N := 7) hx hb hts hin_X7 hown hK hP 1 g1 rfl 5 (by decide) fl_270 (fun _ h9 => h9) rfl dX8_numberAlongText_5 ?_
  refine lv_aload_n hx hb dX8_numberAlongText_8 rfl (lv_at hl 0 rfl) ?_
  refine va_get (D := D) (ci := 9) (v := .int (nI wi)) (C := RX8) (T := TX8) (N := 9) hx hb hts hin_X8 hown hK hP 0 g0 rfl 8 (by decide) fl_59 (fun _ h9 => h9) rfl dX8_numberAlongText_9 ?_
  
  refine lv_isub hx hb dX8_numberAlongText_12 ?_
  refine lv_iconst (v := nI 1) hx hb dX8_numberAlongText_13 (by decide) ?_
  refine lv_iadd hx hb dX8_numberAlongText_14 ?_
  refine va_mmax hx hb (hml.trans hl.1.symm) hown (hts (.methodLink RX8 273 Lib.Math.max.name) (by decide +kernel)) (hts (.static Lib.Math.max.name) (by decide +kernel)) (hts (.initialized "java/lang/Math") (by decide +kernel)) (hts (.code Lib.Math.max.name Lib.Math.max.code 2 (some .int)) (by decide +kernel)) (Nat.le_of_ble_eq_true rfl) (Nat.le_of_ble_eq_true rfl) (Nat.le_of_ble_eq_true rfl) (Nat.le_of_ble_eq_true rfl) dX8_numberAlongText_15 ?_
  rw [mx_sh (by omega) (by omega)]
  refine lv_istore_n (lv' := [(1, .int (nI (pcnt so P + 1 - wi))), (0, .ref z0)]) hx hb dX8_numberAlongText_18 rfl hl (by decide) rfl (fun ls hl => ?_)
  refine lv_iconst (v := nI 0) hx hb dX8_numberAlongText_19 (by decide) ?_
  refine lv_istore_n (lv' := [(2, .int (nI 0)), (1, .int (nI (pcnt so P + 1 - wi))), (0, .ref z0)]) hx hb dX8_numberAlongText_20 rfl hl (by decide) rfl (fun ls hl => ?_)
  have lp_21 : ∀ (fuel : Nat) (i : Nat) (sh1 : List (List Int32)) (A1 : List Nat) (lf1 : Nat → Int32) (bf1 sf1 se1 fa1 : Nat → Nat), (spanL so wi P).length - i < fuel → (i ≤ (spanL so wi P).length) → (runB sh ((spanL so wi P).take i) = (sh1, A1, true)) → (StC sh1 lf1 bf1 sf1 se1) → (HdN fa1 A1) → (BOk sh1 A1 i) → ∀ (ws1 : va_W) (H : Heap) (locs : List Loc) (ls : Array Slot), Sm (fun k => k = 5 ∨ k = 6 ∨ k = 7 ∨ k = 8 ∨ k = 9 ∨ k = 32) ws ws1 → ws1[0]? = some (z0, .inr (9, [.ref a1, .ref t0, .ref d0, .ref s0, .ref e0, .ref k0, .ref al, .int (nI so), .int (nI wi)])) → ws1[1]? = some (a1, .inr (8, [.ref a2, .ref a3, .ref a4, .int (nI len), .int (nI pl), .int (nI (pcnt so P)), .int (nI so)])) → ws1[3]? = some (a3, .inl (cB, 800, .inl fp)) → ws1[4]? = some (a4, .inl (cI, 801, .inl (fun jj => nI (fs jj)))) → ws1[5]? = some (t0, .inr (7, [.ref t1, .ref t2, .ref t3, .ref t4, .int (nI (sh1.length))])) → ws1[6]? = some (t1, .inl (cB, 50000, .inl lf1)) → ws1[7]? = some (t2, .inl (cI, 6001, .inl (fun jj => nI (bf1 jj)))) → ws1[8]? = some (t3, .inl (cI, 6000, .inl (fun jj => nI (sf1 jj)))) → ws1[9]? = some (t4, .inl (cI, 16384, .inl (fun jj => nI (se1 jj)))) → ws1[32]? = some (al, .inl (cI, 800, .inl (fun jj => nI (fa1 jj)))) → va_P D vwCl ws1 H → va_D A ws1 → va_S A s.heap H locs → lv_has ls 4 [(0, .ref z0), (1, .int (nI (pcnt so P + 1 - wi))), (2, .int (nI i))] → W p l e ({ frames := 2, cells := 0, slots := 0, locals := 52 }) s m ([.ref z0] : List Value).toArray below meth c H locs 0 0 (ZI D (TY cB cI cJ cO) (fun r ws' => ∃ lf2 : Nat → Int32, ∃ bf2 : Nat → Nat, ∃ sf2 : Nat → Nat, ∃ se2 : Nat → Nat, ∃ fa2 : Nat → Nat, r = (bif (runB sh (spanL so wi P)).2.2 then nI (spanL so wi P).length else -1) ∧ (StC (runB sh (spanL so wi P)).1 lf2 bf2 sf2 se2) ∧ ((runB sh (spanL so wi P)).2.2 = true → HdN fa2 (runB sh (spanL so wi P)).2.1) ∧ ((runB sh (spanL so wi P)).2.2 = true → BOk (runB sh (spanL so wi P)).1 (runB sh (spanL so wi P)).2.1 (spanL so wi P).length) ∧ ((runB sh (spanL so wi P)).1.length ≤ 6000 ∧ (runB sh (spanL so wi P)).1.flatten.length ≤ 50000) ∧ Sm (fun k => k = 5 ∨ k = 6 ∨ k = 7 ∨ k = 8 ∨ k = 9 ∨ k = 32) ws ws' ∧ ws'[5]? = some (t0, .inr (7, [.ref t1, .ref t2, .ref t3, .ref t4, .int (nI ((runB sh (spanL so wi P)).1.length))])) ∧ ws'[6]? = some (t1, .inl (cB, 50000, .inl lf2)) ∧ ws'[7]? = some (t2, .inl (cI, 6001, .inl (fun jj => nI (bf2 jj)))) ∧ ws'[8]? = some (t3, .inl (cI, 6000, .inl (fun jj => nI (sf2 jj)))) ∧ ws'[9]? = some (t4, .inl (cI, 16384, .inl (fun jj => nI (se2 jj)))) ∧ ws'[32]? = some (al, .inl (cI, 800, .inl (fun jj => nI (fa2 jj))))) below [.ref z0] s 0 0 A) (F0 m 21 ls []) := by
    intro fuel
    induction fuel with
    | zero => intro i sh1 A1 lf1 bf1 sf1 se1 fa1 hfu; exact absurd hfu (Nat.not_lt_zero _)
    | succ fuel ih_21 =>
      intro i sh1 A1 lf1 bf1 sf1 se1 fa1 hfu_21 hi hrun hst1 hfa1 haok ws1 H locs ls sm g0 g1 g3 g4 g5 g6 g7 g8 g9 g32 hP hD hS hl
      refine lv_iload_n hx hb dX8_numberAlongText_21 rfl (lv_at hl 2 rfl) ?_
      refine lv_iload_n hx hb dX8_numberAlongText_22 rfl (lv_at hl 1 rfl) ?_
      refine nx_icmp_ge (tgt := 92) hx hb (by omega) (by omega) dX8_numberAlongText_23 (by decide) (fun c_23 => ?_) (fun c_23 => ?_)
      · refine lv_iload_n hx hb dX8_numberAlongText_92 rfl (lv_at hl 1 rfl) ?_
        have hfin : runB sh (spanL so wi P) = (sh1, A1, true) := runB_end hrun (by omega)
        have g5 : ws1[5]? = some (t0, .inr (7, [.ref t1, .ref t2, .ref t3, .ref t4, .int (nI ((runB sh (spanL so wi P)).1.length))])) := by rw [hfin]; exact g5
        exact CI.ret (v := (nI (pcnt so P + 1 - wi))) C hK hP hD hS rfl (⟨_, _, _, _, _, (by rw [hfin, hsl]; rfl), (by rw [hfin]; exact hst1), (fun _ => by rw [hfin]; exact hfa1), (fun _ => by rw [hfin, ← show i = (spanL so wi P).length by omega]; exact haok), (by rw [hfin]; exact ⟨haok.1, haok.2.1⟩), sm, g5, g6, g7, g8, g9, g32⟩) hc0 hs0 dX8_numberAlongText_93
      · have hil : i < (spanL so wi P).length := by omega
        obtain ⟨TX, hTXe⟩ : ∃ X, X = (spanL so wi P)[i] := ⟨_, rfl⟩
        have hTX : TX = slL P (stt so P i) (stt so P (i + wi) - so) := by rw [hTXe]; exact span_get hs1 _
        have hP0 : 0 < P.length := by omega
        have hm3 := stt_mono (so := so) (P := P) (i := i) (j := i + wi) (by omega)
        have hb3 := stt_bound (so := so) hPe hP0 hs1 (j := i + wi) (by omega)
        have hso0 : so = 0 ∨ so = 1 := by omega
        have hfi : fs i = stt so P i := hfs i (by omega)
        have hfw : fs (i + wi) = stt so P (i + wi) := (Nat.lt_or_eq_of_le (show i + wi ≤ pcnt so P by omega)).elim (fun h9 => hfs _ h9) (fun h9 => by rw [h9, hfe, stt_end hPe hP0 hs1])
        have hTXl : TX.length = fs (i + wi) - so - fs i := by rw [hTX, slL_len (by omega)]; omega
        have hTXx : ∀ t (ht : t < TX.length), fp (fs i + t) = TX[t] := fun t ht => by rw [hfi]; subst hTX; rw [slL_get (by omega), hPf.at]
        refine lv_aload_n hx hb dX8_numberAlongText_26 rfl (lv_at hl 0 rfl) ?_
        refine va_get (D := D) (ci := 9) (v := .ref t0) (C := RX8) (T := TX8) (N := 9) hx hb hts hin_X8 hown hK hP 0 g0 rfl 1 (by decide) fl_19 (fun _ h9 => h9) rfl dX8_numberAlongText_27 ?_
        refine lv_aload_n hx hb dX8_numberAlongText_30 rfl (lv_at hl 0 rfl) ?_
        refine va_get (D := D) (ci := 9) (v := .ref a1) (C := RX8) (T := TX8) (N := 9) hx hb hts hin_X8 hown hK hP 0 g0 rfl 0 (by decide) fl_12 (fun _ h9 => h9) rfl dX8_numberAlongText_31 ?_
        refine va_get (D := D) (ci := 8) (v := .ref a3) (C := RX7) (T := TX7) (N := 7) hx hb hts hin_X7 hown hK hP 1 g1 rfl 1 (by decide) fl_278 (fun _ h9 => h9) rfl dX8_numberAlongText_34 ?_
        refine lv_aload_n hx hb dX8_numberAlongText_37 rfl (lv_at hl 0 rfl) ?_
        refine va_get (D := D) (ci := 9) (v := .ref a1) (C := RX8) (T := TX8) (N := 9) hx hb hts hin_X8 hown hK hP 0 g0 rfl 0 (by decide) fl_12 (fun _ h9 => h9) rfl dX8_numberAlongText_38 ?_
        refine va_get (D := D) (ci := 8) (v := .ref a4) (C := RX7) (T := TX7) (N := 7) hx hb hts hin_X7 hown hK hP 1 g1 rfl 2 (by decide) fl_282 (fun _ h9 => h9) rfl dX8_numberAlongText_41 ?_
        refine lv_iload_n hx hb dX8_numberAlongText_44 rfl (lv_at hl 2 rfl) ?_
        refine nx_iald hx hb hK hP 4 1 g4 rfl (k := i) (by omega) (by decide) dX8_numberAlongText_45 ?_
        refine lv_aload_n hx hb dX8_numberAlongText_46 rfl (lv_at hl 0 rfl) ?_
        refine va_get (D := D) (ci := 9) (v := .ref a1) (C := RX8) (T := TX8) (N := 9) hx hb hts hin_X8 hown hK hP 0 g0 rfl 0 (by decide) fl_12 (fun _ h9 => h9) rfl dX8_numberAlongText_47 ?_
        refine va_get (D := D) (ci := 8) (v := .ref a4) (C := RX7) (T := TX7) (N := 7) hx hb hts hin_X7 hown hK hP 1 g1 rfl 2 (by decide) fl_282 (fun _ h9 => h9) rfl dX8_numberAlongText_50 ?_
        refine lv_iload_n hx hb dX8_numberAlongText_53 rfl (lv_at hl 2 rfl) ?_
        refine lv_aload_n hx hb dX8_numberAlongText_54 rfl (lv_at hl 0 rfl) ?_
        refine va_get (D := D) (ci := 9) (v := .int (nI wi)) (C := RX8) (T := TX8) (N := 9) hx hb hts hin_X8 hown hK hP 0 g0 rfl 8 (by decide) fl_59 (fun _ h9 => h9) rfl dX8_numberAlongText_55 ?_
        refine nx_iadd hx hb dX8_numberAlongText_58 ?_
        refine nx_iald hx hb hK hP 4 1 g4 rfl (k := (i + wi)) (by omega) (by decide) dX8_numberAlongText_59 ?_
        refine lv_aload_n hx hb dX8_numberAlongText_60 rfl (lv_at hl 0 rfl) ?_
        refine va_get (D := D) (ci := 9) (v := .ref a1) (C := RX8) (T := TX8) (N := 9) hx hb hts hin_X8 hown hK hP 0 g0 rfl 0 (by decide) fl_12 (fun _ h9 => h9) rfl dX8_numberAlongText_61 ?_
        refine va_get (D := D) (ci := 8) (v := .int (nI so)) (C := RX7) (T := TX7) (N := 7) hx hb hts hin_X7 hown hK hP 1 g1 rfl 6 (by decide) fl_285 (fun _ h9 => h9) rfl dX8_numberAlongText_64 ?_
        refine nx_isub hx hb (by omega) dX8_numberAlongText_67 ?_
        refine CI.go (va_runV (As := [.ref a3, .int (nI (fs i)), .int (nI ((fs (i + wi)) - so))]) (rest := []) ⟨hx, hb, hml, hown, hts⟩ (c_X6_numberOf (TX := TX) g5 g6 g7 g8 g9 g3 hst1 rfl haok.1 haok.2.1 hTXl (by omega) (by omega) hTXx (fun x hx => hPb x (by rw [hTX] at hx; exact List.mem_of_mem_drop (List.mem_of_mem_take hx))) _) (cwV 3 hts gX8_numberAlongText_X6_numberOf rfl rfl rfl (by decide +kernel) ⟨Nat.le_of_ble_eq_true rfl, Nat.le_of_ble_eq_true rfl⟩) ⟨pw_blind, va_recv hK hP (ci := 7) (q0 := 5) rfl g5, fun U hU hW => pw_pre hK hP hD hU hW⟩ rfl rfl hl.1 rfl (lv_room (Nat.le_of_ble_eq_true rfl)) dX8_numberAlongText_68 ⟨Nat.le_of_ble_eq_true rfl, Nat.le_of_ble_eq_true rfl⟩) hD hS hA (fun r_1 ws_2 H locs hp hP hD hS => ?_)
        obtain ⟨lf2, bf2, sf2, se2, rfl, hst2, sm_3, g5, g6, g7, g8, g9⟩ := hp
        have g0 := sm_3.get g0 (by simp)
        have g1 := sm_3.get g1 (by simp)
        have g3 := sm_3.get g3 (by simp)
        have g4 := sm_3.get g4 (by simp)
        have g32 := sm_3.get g32 (by simp)
        have sm := sm.call sm_3 (by intro k hk; (try simp only at hk ⊢); omega)
        have g5 : ws_2[5]? = some (t0, .inr (7, [.ref t1, .ref t2, .ref t3, .ref t4, .int (nI ((cmA sh1 TX).length))])) := g5
        have g6 : ws_2[6]? = some (t1, .inl (cB, 50000, .inl lf2)) := g6
        have g7 : ws_2[7]? = some (t2, .inl (cI, 6001, .inl (fun jj => nI (bf2 jj)))) := g7
        have g8 : ws_2[8]? = some (t3, .inl (cI, 6000, .inl (fun jj => nI (sf2 jj)))) := g8
        have g9 : ws_2[9]? = some (t4, .inl (cI, 16384, .inl (fun jj => nI (se2 jj)))) := g9
        have hnr := numR_ne (TX := TX) haok.1
        refine lv_istore_n (lv' := [(3, .int (numR sh1 TX)), (0, .ref z0), (1, .int (nI (pcnt so P + 1 - wi))), (2, .int (nI i))]) hx hb dX8_numberAlongText_71 rfl hl (by decide) rfl (fun ls hl => ?_)
        refine lv_iload_n hx hb dX8_numberAlongText_72 rfl (lv_at hl 0 rfl) ?_
        refine lv_iconst (v := -1) hx hb dX8_numberAlongText_73 (by decide) ?_
        refine lv_icmp_ne (tgt := 79) hx hb dX8_numberAlongText_74 (by decide) (fun c_74 => ?_) (fun c_74 => ?_)
        · have hck : cmOk sh1 TX = true := by cases h9 : cmOk sh1 TX with | true => rfl | false => exact absurd (hnr.1.mpr h9) c_74
          have hl : lv_has ls 4 [(3, .int (nI (cmK sh1 TX))), (0, .ref z0), (1, .int (nI (pcnt so P + 1 - wi))), (2, .int (nI i))] := by rw [(hnr.2 hck).1] at hl; exact hl
          refine lv_aload_n hx hb dX8_numberAlongText_79 rfl (lv_at hl 1 rfl) ?_
          refine va_get (D := D) (ci := 9) (v := .ref al) (C := RX8) (T := TX8) (N := 9) hx hb hts hin_X8 hown hK hP 0 g0 rfl 6 (by decide) fl_51 (fun _ h9 => h9) rfl dX8_numberAlongText_80 ?_
          refine lv_iload_n hx hb dX8_numberAlongText_83 rfl (lv_at hl 3 rfl) ?_
          refine lv_iload_n hx hb dX8_numberAlongText_84 rfl (lv_at hl 0 rfl) ?_
          refine nx_iastN hx hb hK hP hD hS 32 1 g32 rfl (k := i) (by omega) (by decide) dX8_numberAlongText_85 (fun ws_4 H locs gq up_5 hP hD hS => ?_)
          have g32 : ws_4[32]? = some (al, .inl (cI, 800, .inl (fun jj => nI ((va_up fa1 i (cmK sh1 TX)) jj)))) := gq
          have g0 := up_5.get g0 (by decide)
          have g1 := up_5.get g1 (by decide)
          have g3 := up_5.get g3 (by decide)
          have g4 := up_5.get g4 (by decide)
          have g5 := up_5.get g5 (by decide)
          have g6 := up_5.get g6 (by decide)
          have g7 := up_5.get g7 (by decide)
          have g8 := up_5.get g8 (by decide)
          have g9 := up_5.get g9 (by decide)
          have sm := sm.up up_5 (by simp)
          refine lv_iinc (v := (nI (i + 1))) (lv' := [(2, .int (nI (i + 1))), (3, .int (nI (cmK sh1 TX))), (0, .ref z0), (1, .int (nI (pcnt so P + 1 - wi)))]) hx hb dX8_numberAlongText_86 hl (k := 3) rfl (nx_inc _ 1) (by decide) rfl (fun ls hl => ?_)
          refine lv_goto (tgt := 21) hx hb dX8_numberAlongText_89 (by decide) ?_
          exact ih_21 (i + 1) _ (A1 ++ [cmK sh1 TX]) _ _ _ _ _ (by omega) (by omega) (by rw [runB_step hil hTXe hrun, hck]; rfl) hst2 (by have h9 := hfa1.upd (x := cmK sh1 TX); rw [haok.2.2.1] at h9; exact h9) (haok.step hck) _ _ _ _ sm g0 g1 g3 g4 g5 g6 g7 g8 g9 g32 hP hD hS (lv_sub hl [2, 3, 0] rfl)
        · have hck : cmOk sh1 TX = false := hnr.1.mp c_74
          refine lv_iconst (v := -1) hx hb dX8_numberAlongText_77 (by decide) ?_
          have hfin : runB sh (spanL so wi P) = (cmA sh1 TX, A1, false) := runB_fail (i := i + 1) (by rw [runB_step hil hTXe hrun, hck]; rfl) rfl
          have g5 : ws_2[5]? = some (t0, .inr (7, [.ref t1, .ref t2, .ref t3, .ref t4, .int (nI ((runB sh (spanL so wi P)).1.length))])) := by rw [hfin]; exact g5
          exact CI.ret (v := (-1)) C hK hP hD hS rfl (⟨_, _, _, _, _, (by rw [hfin]; rfl), (by rw [hfin]; exact hst2), (fun h9 => by rw [hfin] at h9; cases h9), (fun h9 => by rw [hfin] at h9; cases h9), (by rw [hfin]; show (cmA sh1 TX).length ≤ 6000 ∧ (cmA sh1 TX).flatten.length ≤ 50000; rw [cmA, hck]; exact ⟨haok.1, haok.2.1⟩), sm, g5, g6, g7, g8, g9, g32⟩) hc0 hs0 dX8_numberAlongText_78
  have g5 : ws[5]? = some (t0, .inr (7, [.ref t1, .ref t2, .ref t3, .ref t4, .int (nI (sh.length))])) := by rw [hsn]; exact g5
  exact lp_21 _ 0 sh [] lf bf sf se fa_ (Nat.lt_succ_self _) (Nat.zero_le _) rfl hst HdN.nil ⟨by omega, hby, rfl, fun x hx => absurd hx (by simp)⟩ _ _ _ _ sm g0 g1 g3 g4 g5 g6 g7 g8 g9 g32 hP hD hS (lv_sub hl [2, 1, 0] rfl)
