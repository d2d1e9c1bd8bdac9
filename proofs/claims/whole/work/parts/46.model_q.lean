set_option maxHeartbeats 4000000 in
set_option maxRecDepth 100000 in
theorem c_X9_comes {D : va_G} {cB cI cJ cO : ClassId} {l : Launch} {m0 b1 b2 b5 b6 b7 b12 b14 b15 b16 b20 b21 b22 b23 b24 b26 b31 th len ps nm bt_ so wi fm dn ca sta xn bb rr pp qq : Nat} {at_ nn : Nat} {fp lf : Nat → Int32} {ff zf : Nat → Nat} {sh : List (List Int32)} {TX : List Int32} {fr : Nat → Nat} {F : List Nat} {ws : va_W} (g33 : ws[33]? = some (m0, .inr (10, [.int (nI th), .ref b1, .ref b2, .int (nI len), .int (nI ps), .ref b5, .ref b6, .ref b7, .int (nI nm), .int (nI bt_), .int (nI so), .int (nI wi), .ref b12, .int (nI fm), .ref b14, .ref b15, .ref b16, .int (nI dn), .int (nI ca), .int (nI sta), .ref b20, .ref b21, .ref b22, .ref b23, .ref b24, .int (nI xn), .ref b26, .int (nI bb), .int (nI rr), .int (nI pp), .int (nI qq), .ref b31]))) (g35 : ws[35]? = some (b2, .inl (cB, 801, .inl fp))) (g36 : ws[36]? = some (b5, .inl (cB, 50800, .inl lf))) (g37 : ws[37]? = some (b6, .inl (cI, 6800, .inl (fun jj => nI (ff jj))))) (g38 : ws[38]? = some (b7, .inl (cI, 6800, .inl (fun jj => nI (zf jj))))) (g39 : ws[39]? = some (b12, .inl (cI, 801, .inl (fun jj => nI (fr jj))))) (hst : StM sh lf ff zf) (hsn : sh.length = nm) (hn6 : nm ≤ 6000) (hby : sh.flatten.length ≤ 50000) (hTl : TX.length = nn) (hTx : ∀ t (ht : t < TX.length), fp (at_ + t) = TX[t]) (hat : at_ + nn ≤ 801) (hbt : sh.flatten.length = bt_) (hTb : ∀ x ∈ TX, x.toInt8.toInt32 = x) (hfr : HdN fr F) (hfm : F.length = fm) (hF8 : F.length ≤ 800) (hRi : Rise F) (hFn : ∀ x ∈ F, x < sh.length) : CI D (TY cB cI cJ cO) l yX9_comes wsX9_comes ({ frames := 1, cells := 0, slots := 0, locals := 25 }) [.ref m0, .int (nI at_), .int (nI nn)] ws (fun r ws' => ∃ lf2 : Nat → Int32, ∃ ff2 : Nat → Nat, ∃ zf2 : Nat → Nat, ∃ fr2 : Nat → Nat, r = nI ((cmOk sh TX).toNat) ∧ (StM (cmA sh TX) lf2 ff2 zf2) ∧ (HdN fr2 (frA sh F TX)) ∧ Sm (fun k => k = 33 ∨ k = 36 ∨ k = 37 ∨ k = 38 ∨ k = 39) ws ws' ∧ ws'[33]? = some (m0, .inr (10, [.int (nI th), .ref b1, .ref b2, .int (nI len), .int (nI ps), .ref b5, .ref b6, .ref b7, .int (nI ((cmA sh TX).length)), .int (nI ((cmA sh TX).flatten.length)), .int (nI so), .int (nI wi), .ref b12, .int (nI ((frA sh F TX).length)), .ref b14, .ref b15, .ref b16, .int (nI dn), .int (nI ca), .int (nI sta), .ref b20, .ref b21, .ref b22, .ref b23, .ref b24, .int (nI xn), .ref b26, .int (nI bb), .int (nI rr), .int (nI pp), .int (nI qq), .ref b31])) ∧ ws'[36]? = some (b5, .inl (cB, 50800, .inl lf2)) ∧ ws'[37]? = some (b6, .inl (cI, 6800, .inl (fun jj => nI (ff2 jj)))) ∧ ws'[38]? = some (b7, .inl (cI, 6800, .inl (fun jj => nI (zf2 jj)))) ∧ ws'[39]? = some (b12, .inl (cI, 801, .inl (fun jj => nI (fr2 jj))))) := by
  refine CI.of (cc := cX9_comes) (maxL := 6) (ret := (some .boolean)) (by decide) rfl (Nat.le_of_ble_eq_true rfl) ?_
  intro p e s m below meth c A C hK hP hD hA hS ls hl
  obtain ⟨hx, hb, hr, hml, hts, hown, hlocks, hnm⟩ := id C
  have fl_21 := hts (.fieldLink RX9 21 "TwinFinderModel" "plain" "[B") (by decide +kernel)
  have fl_24 := hts (.fieldLink RX9 24 "TwinFinderModel" "numbers" "I") (by decide +kernel)
  have fl_27 := hts (.fieldLink RX9 27 "TwinFinderModel" "size" "[I") (by decide +kernel)
  have fl_31 := hts (.fieldLink RX9 31 "TwinFinderModel" "letters" "[B") (by decide +kernel)
  have fl_34 := hts (.fieldLink RX9 34 "TwinFinderModel" "from" "[I") (by decide +kernel)
  have fl_41 := hts (.fieldLink RX9 41 "TwinFinderModel" "bytes" "I") (by decide +kernel)
  have fl_45 := hts (.fieldLink RX9 45 "TwinFinderModel" "freshMany" "I") (by decide +kernel)
  have fl_48 := hts (.fieldLink RX9 48 "TwinFinderModel" "fresh" "[I") (by decide +kernel)
  have hin_X9 : ∀ w ∈ u_ws RX9 TX9 32, w ∈ wsX9_comes := by decide +kernel
  have hl : lv_has ls 6 [(0, .ref m0), (1, .int (nI at_)), (2, .int (nI nn))] := hl
  have sm : Sm (fun k => k = 33 ∨ k = 36 ∨ k = 37 ∨ k = 38 ∨ k = 39) ws ws := Sm.rf
  have hc0 : (0 : Nat) ≤ 0 := by decide
  have hs0 : (0 : Nat) ≤ 0 := by decide
  refine lv_aload_n hx hb dX9_comes_0 rfl (lv_at hl 0 rfl) ?_
  refine lv_iload_n hx hb dX9_comes_1 rfl (lv_at hl 1 rfl) ?_
  refine lv_iload_n hx hb dX9_comes_2 rfl (lv_at hl 2 rfl) ?_
  refine CI.go (va_runV (As := [.int (nI at_), .int (nI nn)]) (rest := []) ⟨hx, hb, hml, hown, hts⟩ (c_X9_numberOf  g33 g35 g36 g37 g38 hst hsn hn6 hby hTl hTx hat _) (cwV 2 hts gX9_comes_X9_numberOf rfl rfl rfl (by decide +kernel) ⟨Nat.le_of_ble_eq_true rfl, Nat.le_of_ble_eq_true rfl⟩) ⟨pw_blind, va_recv hK hP (ci := 10) (q0 := 33) rfl g33, fun U hU hW => pw_pre hK hP hD hU hW⟩ rfl rfl hl.1 rfl (lv_room (Nat.le_of_ble_eq_true rfl)) dX9_comes_3 ⟨by decide, by decide⟩) hD hS hA (fun r_1 ws_2 H locs hp hP hD hS => ?_)
  obtain ⟨rfl, rfl⟩ := hp
  rcases hid : idxO sh TX with _ | kx
  · try simp only [optI]
    refine lv_istore_n (lv' := [(3, .int (-1)), (0, .ref m0), (1, .int (nI at_)), (2, .int (nI nn))]) hx hb dX9_comes_6 rfl hl (by decide) rfl (fun ls hl => ?_)
    refine lv_iload_n hx hb dX9_comes_7 rfl (lv_at hl 0 rfl) ?_
    refine lv_if_ge (tgt := 112) hx hb dX9_comes_8 (by decide) (fun c_8 => absurd c_8 (by decide)) (fun c_8 => ?_)
    refine lv_aload_n hx hb dX9_comes_11 rfl (lv_at hl 1 rfl) ?_
    refine va_get (D := D) (ci := 10) (v := .int (nI nm)) (C := RX9) (T := TX9) (N := 32) hx hb hts hin_X9 hown hK hP 33 g33 rfl 8 (by decide) fl_24 (fun _ h9 => h9) rfl dX9_comes_12 ?_
    refine lv_sipush (v := nI 6000) hx hb dX9_comes_15 (by decide) ?_
    refine nx_icmp_eq (tgt := 32) hx hb (by omega) (by omega) dX9_comes_18 (by decide) (fun c_18 => ?_) (fun c_18 => ?_)
    · refine lv_iconst (v := nI 0) hx hb dX9_comes_32 (by decide) ?_
      have hcm := cma_no (F := F) hid (by omega)
      have g33 : ws[33]? = some (m0, .inr (10, [.int (nI th), .ref b1, .ref b2, .int (nI len), .int (nI ps), .ref b5, .ref b6, .ref b7, .int (nI ((cmA sh TX).length)), .int (nI ((cmA sh TX).flatten.length)), .int (nI so), .int (nI wi), .ref b12, .int (nI ((frA sh F TX).length)), .ref b14, .ref b15, .ref b16, .int (nI dn), .int (nI ca), .int (nI sta), .ref b20, .ref b21, .ref b22, .ref b23, .ref b24, .int (nI xn), .ref b26, .int (nI bb), .int (nI rr), .int (nI pp), .int (nI qq), .ref b31])) := by rw [hcm.2.1, hcm.2.2, hsn, hbt, hfm]; exact g33
      exact CI.ret (v := (nI 0)) C hK hP hD hS (by decide) (⟨lf, ff, zf, fr, (by rw [hcm.1]; rfl), (by rw [hcm.2.1]; exact hst), (by rw [hcm.2.2]; exact hfr), sm, g33, g36, g37, g38, g39⟩) hc0 hs0 dX9_comes_33
    · refine lv_aload_n hx hb dX9_comes_21 rfl (lv_at hl 1 rfl) ?_
      refine va_get (D := D) (ci := 10) (v := .int (nI bt_)) (C := RX9) (T := TX9) (N := 32) hx hb hts hin_X9 hown hK hP 33 g33 rfl 9 (by decide) fl_41 (fun _ h9 => h9) rfl dX9_comes_22 ?_
      refine lv_iload_n hx hb dX9_comes_25 rfl (lv_at hl 3 rfl) ?_
      refine nx_iadd hx hb dX9_comes_26 ?_
      refine lv_ldc (v := nI 50000) hx hb hown (hts (.constant RX9 44 50000) (by decide +kernel)) dX9_comes_27 ?_
      refine nx_icmp_le (tgt := 34) hx hb (by omega) (by omega) dX9_comes_29 (by decide) (fun c_29 => ?_) (fun c_29 => ?_)
      · refine lv_aload_n hx hb dX9_comes_34 rfl (lv_at hl 1 rfl) ?_
        refine va_get (D := D) (ci := 10) (v := .int (nI nm)) (C := RX9) (T := TX9) (N := 32) hx hb hts hin_X9 hown hK hP 33 g33 rfl 8 (by decide) fl_24 (fun _ h9 => h9) rfl dX9_comes_35 ?_
        refine lv_istore_n (lv' := [(3, .int (nI nm)), (0, .ref m0), (1, .int (nI at_)), (2, .int (nI nn))]) hx hb dX9_comes_38 rfl hl (by decide) rfl (fun ls hl => ?_)
        refine lv_aload_n hx hb dX9_comes_39 rfl (lv_at hl 1 rfl) ?_
        refine va_get (D := D) (ci := 10) (v := .ref b6) (C := RX9) (T := TX9) (N := 32) hx hb hts hin_X9 hown hK hP 33 g33 rfl 6 (by decide) fl_34 (fun _ h9 => h9) rfl dX9_comes_40 ?_
        refine lv_iload_n hx hb dX9_comes_43 rfl (lv_at hl 0 rfl) ?_
        refine lv_aload_n hx hb dX9_comes_44 rfl (lv_at hl 1 rfl) ?_
        refine va_get (D := D) (ci := 10) (v := .int (nI bt_)) (C := RX9) (T := TX9) (N := 32) hx hb hts hin_X9 hown hK hP 33 g33 rfl 9 (by decide) fl_41 (fun _ h9 => h9) rfl dX9_comes_45 ?_
        refine nx_iastN hx hb hK hP hD hS 37 1 g37 rfl (k := nm) (by omega) (by decide) dX9_comes_48 (fun ws_3 H locs gq up_4 hP hD hS => ?_)
        have g37 : ws_3[37]? = some (b6, .inl (cI, 6800, .inl (fun jj => nI ((va_up ff nm bt_) jj)))) := gq
        have g33 := up_4.get g33 (by decide)
        have g35 := up_4.get g35 (by decide)
        have g36 := up_4.get g36 (by decide)
        have g38 := up_4.get g38 (by decide)
        have g39 := up_4.get g39 (by decide)
        have sm := sm.up up_4 (by simp)
        refine lv_aload_n hx hb dX9_comes_49 rfl (lv_at hl 1 rfl) ?_
        refine va_get (D := D) (ci := 10) (v := .ref b7) (C := RX9) (T := TX9) (N := 32) hx hb hts hin_X9 hown hK hP 33 g33 rfl 7 (by decide) fl_27 (fun _ h9 => h9) rfl dX9_comes_50 ?_
        refine lv_iload_n hx hb dX9_comes_53 rfl (lv_at hl 0 rfl) ?_
        refine lv_iload_n hx hb dX9_comes_54 rfl (lv_at hl 3 rfl) ?_
        refine nx_iastN hx hb hK hP hD hS 38 1 g38 rfl (k := nm) (by omega) (by decide) dX9_comes_55 (fun ws_5 H locs gq up_6 hP hD hS => ?_)
        have g38 : ws_5[38]? = some (b7, .inl (cI, 6800, .inl (fun jj => nI ((va_up zf nm nn) jj)))) := gq
        have g33 := up_6.get g33 (by decide)
        have g35 := up_6.get g35 (by decide)
        have g36 := up_6.get g36 (by decide)
        have g37 := up_6.get g37 (by decide)
        have g39 := up_6.get g39 (by decide)
        have sm := sm.up up_6 (by simp)
        refine lv_iconst (v := nI 0) hx hb dX9_comes_56 (by decide) ?_
        refine lv_istore (lv' := [(4, .int (nI 0)), (3, .int (nI nm)), (0, .ref m0), (1, .int (nI at_)), (2, .int (nI nn))]) hx hb dX9_comes_57 hl (by decide) rfl (fun ls hl => ?_)
        have lp_59 : ∀ (fuel : Nat) (i9 : Nat), nn - i9 < fuel → (i9 ≤ nn) → ∀ (ws1 : va_W) (H : Heap) (locs : List Loc) (ls : Array Slot), Sm (fun k => k = 33 ∨ k = 36 ∨ k = 37 ∨ k = 38 ∨ k = 39) ws ws1 → ws1[33]? = some (m0, .inr (10, [.int (nI th), .ref b1, .ref b2, .int (nI len), .int (nI ps), .ref b5, .ref b6, .ref b7, .int (nI nm), .int (nI bt_), .int (nI so), .int (nI wi), .ref b12, .int (nI fm), .ref b14, .ref b15, .ref b16, .int (nI dn), .int (nI ca), .int (nI sta), .ref b20, .ref b21, .ref b22, .ref b23, .ref b24, .int (nI xn), .ref b26, .int (nI bb), .int (nI rr), .int (nI pp), .int (nI qq), .ref b31])) → ws1[35]? = some (b2, .inl (cB, 801, .inl fp)) → ws1[36]? = some (b5, .inl (cB, 50800, .inl (cpB lf fp bt_ at_ i9))) → ws1[37]? = some (b6, .inl (cI, 6800, .inl (fun jj => nI ((va_up ff nm bt_) jj)))) → ws1[38]? = some (b7, .inl (cI, 6800, .inl (fun jj => nI ((va_up zf nm nn) jj)))) → ws1[39]? = some (b12, .inl (cI, 801, .inl (fun jj => nI (fr jj)))) → va_P D vwCl ws1 H → va_D A ws1 → va_S A s.heap H locs → lv_has ls 6 [(0, .ref m0), (1, .int (nI at_)), (2, .int (nI nn)), (3, .int (nI nm)), (4, .int (nI i9))] → W p l e ({ frames := 1, cells := 0, slots := 0, locals := 25 }) s m ([.ref m0, .int (nI at_), .int (nI nn)] : List Value).toArray below meth c H locs 0 0 (ZI D (TY cB cI cJ cO) (fun r ws' => ∃ lf2 : Nat → Int32, ∃ ff2 : Nat → Nat, ∃ zf2 : Nat → Nat, ∃ fr2 : Nat → Nat, r = nI ((cmOk sh TX).toNat) ∧ (StM (cmA sh TX) lf2 ff2 zf2) ∧ (HdN fr2 (frA sh F TX)) ∧ Sm (fun k => k = 33 ∨ k = 36 ∨ k = 37 ∨ k = 38 ∨ k = 39) ws ws' ∧ ws'[33]? = some (m0, .inr (10, [.int (nI th), .ref b1, .ref b2, .int (nI len), .int (nI ps), .ref b5, .ref b6, .ref b7, .int (nI ((cmA sh TX).length)), .int (nI ((cmA sh TX).flatten.length)), .int (nI so), .int (nI wi), .ref b12, .int (nI ((frA sh F TX).length)), .ref b14, .ref b15, .ref b16, .int (nI dn), .int (nI ca), .int (nI sta), .ref b20, .ref b21, .ref b22, .ref b23, .ref b24, .int (nI xn), .ref b26, .int (nI bb), .int (nI rr), .int (nI pp), .int (nI qq), .ref b31])) ∧ ws'[36]? = some (b5, .inl (cB, 50800, .inl lf2)) ∧ ws'[37]? = some (b6, .inl (cI, 6800, .inl (fun jj => nI (ff2 jj)))) ∧ ws'[38]? = some (b7, .inl (cI, 6800, .inl (fun jj => nI (zf2 jj)))) ∧ ws'[39]? = some (b12, .inl (cI, 801, .inl (fun jj => nI (fr2 jj))))) below [.ref m0, .int (nI at_), .int (nI nn)] s 0 0 A) (F0 m 59 ls []) := by
          intro fuel
          induction fuel with
          | zero => intro i9 hfu; exact absurd hfu (Nat.not_lt_zero _)
          | succ fuel ih_59 =>
            intro i9 hfu_59 hi9 ws1 H locs ls sm g33 g35 g36 g37 g38 g39 hP hD hS hl
            refine lv_iload hx hb dX9_comes_59 (lv_at hl 4 rfl) ?_
            refine lv_iload_n hx hb dX9_comes_61 rfl (lv_at hl 2 rfl) ?_
            refine nx_icmp_ge (tgt := 92) hx hb (by omega) (by omega) dX9_comes_62 (by decide) (fun c_62 => ?_) (fun c_62 => ?_)
            · refine lv_aload_n hx hb dX9_comes_92 rfl (lv_at hl 0 rfl) ?_
              refine lv_dup hx hb dX9_comes_93 rfl ?_
              refine va_get (D := D) (ci := 10) (v := .int (nI bt_)) (C := RX9) (T := TX9) (N := 32) hx hb hts hin_X9 hown hK hP 33 g33 rfl 9 (by decide) fl_41 (fun _ h9 => h9) rfl dX9_comes_94 ?_
              refine lv_iload_n hx hb dX9_comes_97 rfl (lv_at hl 2 rfl) ?_
              refine nx_iadd hx hb dX9_comes_98 ?_
              refine nx_put (D := D) (ci := 10) (v := .int (nI (bt_ + nn))) (ty := .int) (C := RX9) (T := TX9) (N := 32) hx hb hts hin_X9 tyX9 tyX9_ok nmX9 hown hK hP hD hS 33 g33 rfl 9 (by decide) fl_41 (fun _ h9 => h9) rfl (by decide +kernel) rfl rfl (Nat.le_of_ble_eq_true rfl) dX9_comes_99 (fun ws_7 H locs gq up_8 hP hD hS => ?_)
              have g33 : ws_7[33]? = some (m0, .inr (10, [.int (nI th), .ref b1, .ref b2, .int (nI len), .int (nI ps), .ref b5, .ref b6, .ref b7, .int (nI nm), .int (nI (bt_ + nn)), .int (nI so), .int (nI wi), .ref b12, .int (nI fm), .ref b14, .ref b15, .ref b16, .int (nI dn), .int (nI ca), .int (nI sta), .ref b20, .ref b21, .ref b22, .ref b23, .ref b24, .int (nI xn), .ref b26, .int (nI bb), .int (nI rr), .int (nI pp), .int (nI qq), .ref b31])) := gq
              have g35 := up_8.get g35 (by decide)
              have g36 := up_8.get g36 (by decide)
              have g37 := up_8.get g37 (by decide)
              have g38 := up_8.get g38 (by decide)
              have g39 := up_8.get g39 (by decide)
              have sm := sm.up up_8 (by simp)
              refine lv_aload_n hx hb dX9_comes_102 rfl (lv_at hl 0 rfl) ?_
              refine lv_dup hx hb dX9_comes_103 rfl ?_
              refine va_get (D := D) (ci := 10) (v := .int (nI nm)) (C := RX9) (T := TX9) (N := 32) hx hb hts hin_X9 hown hK hP 33 g33 rfl 8 (by decide) fl_24 (fun _ h9 => h9) rfl dX9_comes_104 ?_
              refine lv_iconst (v := nI 1) hx hb dX9_comes_107 (by decide) ?_
              refine nx_iadd hx hb dX9_comes_108 ?_
              refine nx_put (D := D) (ci := 10) (v := .int (nI (nm + 1))) (ty := .int) (C := RX9) (T := TX9) (N := 32) hx hb hts hin_X9 tyX9 tyX9_ok nmX9 hown hK hP hD hS 33 g33 rfl 8 (by decide) fl_24 (fun _ h9 => h9) rfl (by decide +kernel) rfl rfl (Nat.le_of_ble_eq_true rfl) dX9_comes_109 (fun ws_9 H locs gq up_10 hP hD hS => ?_)
              have g33 : ws_9[33]? = some (m0, .inr (10, [.int (nI th), .ref b1, .ref b2, .int (nI len), .int (nI ps), .ref b5, .ref b6, .ref b7, .int (nI (nm + 1)), .int (nI (bt_ + nn)), .int (nI so), .int (nI wi), .ref b12, .int (nI fm), .ref b14, .ref b15, .ref b16, .int (nI dn), .int (nI ca), .int (nI sta), .ref b20, .ref b21, .ref b22, .ref b23, .ref b24, .int (nI xn), .ref b26, .int (nI bb), .int (nI rr), .int (nI pp), .int (nI qq), .ref b31])) := gq
              have g35 := up_10.get g35 (by decide)
              have g36 := up_10.get g36 (by decide)
              have g37 := up_10.get g37 (by decide)
              have g38 := up_10.get g38 (by decide)
              have g39 := up_10.get g39 (by decide)
              have sm := sm.up up_10 (by simp)
              have hfl : ∀ q, q < F.length → fr q < 6001 := fun q hq => by have := hFn F[q] (List.getElem_mem _); rw [hfr.at hq]; omega
              refine lv_aload_n hx hb dX9_comes_112 rfl (lv_at hl 0 rfl) ?_
              refine va_get (D := D) (ci := 10) (v := .int (nI fm)) (C := RX9) (T := TX9) (N := 32) hx hb hts hin_X9 hown hK hP 33 g33 rfl 13 (by decide) fl_45 (fun _ h9 => h9) rfl dX9_comes_113 ?_
              refine lv_istore (lv' := [(4, .int (nI fm)), (0, .ref m0), (1, .int (nI at_)), (2, .int (nI nn)), (3, .int (nI nm))]) hx hb dX9_comes_116 hl (by decide) rfl (fun ls hl => ?_)
              have lp_118 : ∀ (fuel : Nat) (t : Nat), t < fuel → (t ≤ F.length) → (∀ q (hq : q < F.length), t ≤ q → nm < F[q]) → ∀ (ws1 : va_W) (H : Heap) (locs : List Loc) (ls : Array Slot), Sm (fun k => k = 33 ∨ k = 36 ∨ k = 37 ∨ k = 38 ∨ k = 39) ws ws1 → ws1[33]? = some (m0, .inr (10, [.int (nI th), .ref b1, .ref b2, .int (nI len), .int (nI ps), .ref b5, .ref b6, .ref b7, .int (nI (nm + 1)), .int (nI (bt_ + nn)), .int (nI so), .int (nI wi), .ref b12, .int (nI fm), .ref b14, .ref b15, .ref b16, .int (nI dn), .int (nI ca), .int (nI sta), .ref b20, .ref b21, .ref b22, .ref b23, .ref b24, .int (nI xn), .ref b26, .int (nI bb), .int (nI rr), .int (nI pp), .int (nI qq), .ref b31])) → ws1[35]? = some (b2, .inl (cB, 801, .inl fp)) → ws1[36]? = some (b5, .inl (cB, 50800, .inl (cpB lf fp bt_ at_ i9))) → ws1[37]? = some (b6, .inl (cI, 6800, .inl (fun jj => nI ((va_up ff nm bt_) jj)))) → ws1[38]? = some (b7, .inl (cI, 6800, .inl (fun jj => nI ((va_up zf nm nn) jj)))) → ws1[39]? = some (b12, .inl (cI, 801, .inl (fun jj => nI (fr jj)))) → va_P D vwCl ws1 H → va_D A ws1 → va_S A s.heap H locs → lv_has ls 6 [(0, .ref m0), (1, .int (nI at_)), (2, .int (nI nn)), (3, .int (nI nm)), (4, .int (nI t))] → W p l e ({ frames := 1, cells := 0, slots := 0, locals := 25 }) s m ([.ref m0, .int (nI at_), .int (nI nn)] : List Value).toArray below meth c H locs 0 0 (ZI D (TY cB cI cJ cO) (fun r ws' => ∃ lf2 : Nat → Int32, ∃ ff2 : Nat → Nat, ∃ zf2 : Nat → Nat, ∃ fr2 : Nat → Nat, r = nI ((cmOk sh TX).toNat) ∧ (StM (cmA sh TX) lf2 ff2 zf2) ∧ (HdN fr2 (frA sh F TX)) ∧ Sm (fun k => k = 33 ∨ k = 36 ∨ k = 37 ∨ k = 38 ∨ k = 39) ws ws' ∧ ws'[33]? = some (m0, .inr (10, [.int (nI th), .ref b1, .ref b2, .int (nI len), .int (nI ps), .ref b5, .ref b6, .ref b7, .int (nI ((cmA sh TX).length)), .int (nI ((cmA sh TX).flatten.length)), .int (nI so), .int (nI wi), .ref b12, .int (nI ((frA sh F TX).length)), .ref b14, .ref b15, .ref b16, .int (nI dn), .int (nI ca), .int (nI sta), .ref b20, .ref b21, .ref b22, .ref b23, .ref b24, .int (nI xn), .ref b26, .int (nI bb), .int (nI rr), .int (nI pp), .int (nI qq), .ref b31])) ∧ ws'[36]? = some (b5, .inl (cB, 50800, .inl lf2)) ∧ ws'[37]? = some (b6, .inl (cI, 6800, .inl (fun jj => nI (ff2 jj)))) ∧ ws'[38]? = some (b7, .inl (cI, 6800, .inl (fun jj => nI (zf2 jj)))) ∧ ws'[39]? = some (b12, .inl (cI, 801, .inl (fun jj => nI (fr2 jj))))) below [.ref m0, .int (nI at_), .int (nI nn)] s 0 0 A) (F0 m 118 ls []) := by
                intro fuel
                induction fuel with
                | zero => intro t hfu; exact absurd hfu (Nat.not_lt_zero _)
                | succ fuel ih_118 =>
                  intro t hfu_118 ht hhi ws1 H locs ls sm g33 g35 g36 g37 g38 g39 hP hD hS hl
                  refine lv_iload hx hb dX9_comes_118 (lv_at hl 4 rfl) ?_
                  refine nx_if_le (tgt := 142) hx hb (by omega) dX9_comes_120 (by decide) (fun c_120 => ?_) (fun c_120 => ?_)
                  · refine lv_iload hx hb dX9_comes_142 (lv_at hl 4 rfl) ?_
                    refine nx_if_le (tgt := 162) hx hb (by omega) dX9_comes_144 (by decide) (fun c_144 => ?_) (fun c_144 => ?_)
                    · refine lv_aload_n hx hb dX9_comes_162 rfl (lv_at hl 0 rfl) ?_
                      refine va_get (D := D) (ci := 10) (v := .int (nI fm)) (C := RX9) (T := TX9) (N := 32) hx hb hts hin_X9 hown hK hP 33 g33 rfl 13 (by decide) fl_45 (fun _ h9 => h9) rfl dX9_comes_163 ?_
                      refine lv_istore (lv' := [(5, .int (nI fm)), (0, .ref m0), (1, .int (nI at_)), (2, .int (nI nn)), (3, .int (nI nm)), (4, .int (nI t))]) hx hb dX9_comes_166 hl (by decide) rfl (fun ls hl => ?_)
                      have lp_168 : ∀ (fuel : Nat) (i : Nat), i < fuel → (t ≤ i ∧ i ≤ fm) → ∀ (ws1 : va_W) (H : Heap) (locs : List Loc) (ls : Array Slot), Sm (fun k => k = 33 ∨ k = 36 ∨ k = 37 ∨ k = 38 ∨ k = 39) ws ws1 → ws1[33]? = some (m0, .inr (10, [.int (nI th), .ref b1, .ref b2, .int (nI len), .int (nI ps), .ref b5, .ref b6, .ref b7, .int (nI (nm + 1)), .int (nI (bt_ + nn)), .int (nI so), .int (nI wi), .ref b12, .int (nI fm), .ref b14, .ref b15, .ref b16, .int (nI dn), .int (nI ca), .int (nI sta), .ref b20, .ref b21, .ref b22, .ref b23, .ref b24, .int (nI xn), .ref b26, .int (nI bb), .int (nI rr), .int (nI pp), .int (nI qq), .ref b31])) → ws1[35]? = some (b2, .inl (cB, 801, .inl fp)) → ws1[36]? = some (b5, .inl (cB, 50800, .inl (cpB lf fp bt_ at_ i9))) → ws1[37]? = some (b6, .inl (cI, 6800, .inl (fun jj => nI ((va_up ff nm bt_) jj)))) → ws1[38]? = some (b7, .inl (cI, 6800, .inl (fun jj => nI ((va_up zf nm nn) jj)))) → ws1[39]? = some (b12, .inl (cI, 801, .inl (fun jj => nI ((shU fr fm i) jj)))) → va_P D vwCl ws1 H → va_D A ws1 → va_S A s.heap H locs → lv_has ls 6 [(0, .ref m0), (1, .int (nI at_)), (2, .int (nI nn)), (3, .int (nI nm)), (4, .int (nI t)), (5, .int (nI i))] → W p l e ({ frames := 1, cells := 0, slots := 0, locals := 25 }) s m ([.ref m0, .int (nI at_), .int (nI nn)] : List Value).toArray below meth c H locs 0 0 (ZI D (TY cB cI cJ cO) (fun r ws' => ∃ lf2 : Nat → Int32, ∃ ff2 : Nat → Nat, ∃ zf2 : Nat → Nat, ∃ fr2 : Nat → Nat, r = nI ((cmOk sh TX).toNat) ∧ (StM (cmA sh TX) lf2 ff2 zf2) ∧ (HdN fr2 (frA sh F TX)) ∧ Sm (fun k => k = 33 ∨ k = 36 ∨ k = 37 ∨ k = 38 ∨ k = 39) ws ws' ∧ ws'[33]? = some (m0, .inr (10, [.int (nI th), .ref b1, .ref b2, .int (nI len), .int (nI ps), .ref b5, .ref b6, .ref b7, .int (nI ((cmA sh TX).length)), .int (nI ((cmA sh TX).flatten.length)), .int (nI so), .int (nI wi), .ref b12, .int (nI ((frA sh F TX).length)), .ref b14, .ref b15, .ref b16, .int (nI dn), .int (nI ca), .int (nI sta), .ref b20, .ref b21, .ref b22, .ref b23, .ref b24, .int (nI xn), .ref b26, .int (nI bb), .int (nI rr), .int (nI pp), .int (nI qq), .ref b31])) ∧ ws'[36]? = some (b5, .inl (cB, 50800, .inl lf2)) ∧ ws'[37]? = some (b6, .inl (cI, 6800, .inl (fun jj => nI (ff2 jj)))) ∧ ws'[38]? = some (b7, .inl (cI, 6800, .inl (fun jj => nI (zf2 jj)))) ∧ ws'[39]? = some (b12, .inl (cI, 801, .inl (fun jj => nI (fr2 jj))))) below [.ref m0, .int (nI at_), .int (nI nn)] s 0 0 A) (F0 m 168 ls []) := by
                        intro fuel
                        induction fuel with
                        | zero => intro i hfu; exact absurd hfu (Nat.not_lt_zero _)
                        | succ fuel ih_168 =>
                          intro i hfu_168 hi ws1 H locs ls sm g33 g35 g36 g37 g38 g39 hP hD hS hl
                          refine lv_iload hx hb dX9_comes_168 (lv_at hl 5 rfl) ?_
                          refine lv_iload hx hb dX9_comes_170 (lv_at hl 4 rfl) ?_
                          refine nx_icmp_le (tgt := 197) hx hb (by omega) (by omega) dX9_comes_172 (by decide) (fun c_172 => ?_) (fun c_172 => ?_)
                          · refine lv_aload_n hx hb dX9_comes_197 rfl (lv_at hl 0 rfl) ?_
                            refine va_get (D := D) (ci := 10) (v := .ref b12) (C := RX9) (T := TX9) (N := 32) hx hb hts hin_X9 hown hK hP 33 g33 rfl 12 (by decide) fl_48 (fun _ h9 => h9) rfl dX9_comes_198 ?_
                            refine lv_iload hx hb dX9_comes_201 (lv_at hl 4 rfl) ?_
                            refine lv_iload_n hx hb dX9_comes_203 rfl (lv_at hl 3 rfl) ?_
                            refine nx_iastN hx hb hK hP hD hS 39 1 g39 rfl (k := t) (by omega) (by decide) dX9_comes_204 (fun ws_11 H locs gq up_12 hP hD hS => ?_)
                            have g39 : ws_11[39]? = some (b12, .inl (cI, 801, .inl (fun jj => nI ((va_up (shU fr fm i) t nm) jj)))) := gq
                            have g33 := up_12.get g33 (by decide)
                            have g35 := up_12.get g35 (by decide)
                            have g36 := up_12.get g36 (by decide)
                            have g37 := up_12.get g37 (by decide)
                            have g38 := up_12.get g38 (by decide)
                            have sm := sm.up up_12 (by simp)
                            refine lv_aload_n hx hb dX9_comes_205 rfl (lv_at hl 0 rfl) ?_
                            refine lv_dup hx hb dX9_comes_206 rfl ?_
                            refine va_get (D := D) (ci := 10) (v := .int (nI fm)) (C := RX9) (T := TX9) (N := 32) hx hb hts hin_X9 hown hK hP 33 g33 rfl 13 (by decide) fl_45 (fun _ h9 => h9) rfl dX9_comes_207 ?_
                            refine lv_iconst (v := nI 1) hx hb dX9_comes_210 (by decide) ?_
                            refine nx_iadd hx hb dX9_comes_211 ?_
                            refine nx_put (D := D) (ci := 10) (v := .int (nI (fm + 1))) (ty := .int) (C := RX9) (T := TX9) (N := 32) hx hb hts hin_X9 tyX9 tyX9_ok nmX9 hown hK hP hD hS 33 g33 rfl 13 (by decide) fl_45 (fun _ h9 => h9) rfl (by decide +kernel) rfl rfl (Nat.le_of_ble_eq_true rfl) dX9_comes_212 (fun ws_13 H locs gq up_14 hP hD hS => ?_)
                            have g33 : ws_13[33]? = some (m0, .inr (10, [.int (nI th), .ref b1, .ref b2, .int (nI len), .int (nI ps), .ref b5, .ref b6, .ref b7, .int (nI (nm + 1)), .int (nI (bt_ + nn)), .int (nI so), .int (nI wi), .ref b12, .int (nI (fm + 1)), .ref b14, .ref b15, .ref b16, .int (nI dn), .int (nI ca), .int (nI sta), .ref b20, .ref b21, .ref b22, .ref b23, .ref b24, .int (nI xn), .ref b26, .int (nI bb), .int (nI rr), .int (nI pp), .int (nI qq), .ref b31])) := gq
                            have g35 := up_14.get g35 (by decide)
                            have g36 := up_14.get g36 (by decide)
                            have g37 := up_14.get g37 (by decide)
                            have g38 := up_14.get g38 (by decide)
                            have g39 := up_14.get g39 (by decide)
                            have sm := sm.up up_14 (by simp)
                            refine lv_iconst (v := nI 1) hx hb dX9_comes_215 (by decide) ?_
                            have hcm := cma_new (F := F) hid (by omega) (by omega)
                            rw [hsn] at hcm
                            have hlo : ∀ q (hq : q < F.length), q < t → F[q] < nm := fun q hq h => ins_lo hRi hq h (by omega) (by rw [← hfr.at (by omega)]; omega)
                            have hins : insS nm F = F.take t ++ nm :: F.drop t := ins_at (by omega) hlo hhi
                            rw [hins] at hcm
                            have hil : (F.take t ++ nm :: F.drop t).length = fm + 1 := by rw [← hfm]; simp; omega
                            have hle1 : (sh ++ [TX]).length = nm + 1 := by rw [List.length_append, hsn]; rfl
                            have hle2 : (sh ++ [TX]).flatten.length = bt_ + nn := by rw [List.flatten_append, List.length_append, show [TX].flatten = TX by simp, hbt, hTl]
                            have g33 : ws_13[33]? = some (m0, .inr (10, [.int (nI th), .ref b1, .ref b2, .int (nI len), .int (nI ps), .ref b5, .ref b6, .ref b7, .int (nI ((cmA sh TX).length)), .int (nI ((cmA sh TX).flatten.length)), .int (nI so), .int (nI wi), .ref b12, .int (nI ((frA sh F TX).length)), .ref b14, .ref b15, .ref b16, .int (nI dn), .int (nI ca), .int (nI sta), .ref b20, .ref b21, .ref b22, .ref b23, .ref b24, .int (nI xn), .ref b26, .int (nI bb), .int (nI rr), .int (nI pp), .int (nI qq), .ref b31])) := by rw [hcm.2.1, hcm.2.2, hle1, hle2, hil]; exact g33
                            exact CI.ret (v := (nI 1)) C hK hP hD hS (by decide) (⟨_, _, _, _, (by rw [hcm.1]; rfl), (by rw [hcm.2.1]; have h9 := hst.app (fp := fp) (TX := TX) (at_ := at_) hTx; rw [hbt, hsn, hTl] at h9; rw [show i9 = nn by omega]; exact h9), (by rw [hcm.2.2]; have h9 := hfr.ins (t := t) (k := nm) (by omega); rw [hfm] at h9; rw [show i = t by omega]; exact h9), sm, g33, g36, g37, g38, g39⟩) hc0 hs0 dX9_comes_216
                          · refine lv_aload_n hx hb dX9_comes_175 rfl (lv_at hl 0 rfl) ?_
                            refine va_get (D := D) (ci := 10) (v := .ref b12) (C := RX9) (T := TX9) (N := 32) hx hb hts hin_X9 hown hK hP 33 g33 rfl 12 (by decide) fl_48 (fun _ h9 => h9) rfl dX9_comes_176 ?_
                            refine lv_iload hx hb dX9_comes_179 (lv_at hl 5 rfl) ?_
                            refine lv_aload_n hx hb dX9_comes_181 rfl (lv_at hl 0 rfl) ?_
                            refine va_get (D := D) (ci := 10) (v := .ref b12) (C := RX9) (T := TX9) (N := 32) hx hb hts hin_X9 hown hK hP 33 g33 rfl 12 (by decide) fl_48 (fun _ h9 => h9) rfl dX9_comes_182 ?_
                            refine lv_iload hx hb dX9_comes_185 (lv_at hl 5 rfl) ?_
                            refine lv_iconst (v := nI 1) hx hb dX9_comes_187 (by decide) ?_
                            refine nx_isub hx hb (by omega) dX9_comes_188 ?_
                            refine nx_iald hx hb hK hP 39 1 g39 rfl (k := (i - 1)) (by omega) (by decide) dX9_comes_189 ?_
                            refine nx_iastN hx hb hK hP hD hS 39 1 g39 rfl (k := i) (by omega) (by decide) dX9_comes_190 (fun ws_15 H locs gq up_16 hP hD hS => ?_)
                            have g39 : ws_15[39]? = some (b12, .inl (cI, 801, .inl (fun jj => nI ((va_up (shU fr fm i) i ((shU fr fm i) (i - 1))) jj)))) := gq
                            have g33 := up_16.get g33 (by decide)
                            have g35 := up_16.get g35 (by decide)
                            have g36 := up_16.get g36 (by decide)
                            have g37 := up_16.get g37 (by decide)
                            have g38 := up_16.get g38 (by decide)
                            have sm := sm.up up_16 (by simp)
                            refine lv_iinc (v := (nI (i - 1))) (lv' := [(5, .int (nI (i - 1))), (0, .ref m0), (1, .int (nI at_)), (2, .int (nI nn)), (3, .int (nI nm)), (4, .int (nI t))]) hx hb dX9_comes_191 hl (k := 5) rfl (nx_dec (n := 1) (by omega)) (by decide) rfl (fun ls hl => ?_)
                            refine lv_goto (tgt := 168) hx hb dX9_comes_194 (by decide) ?_
                            have g39 : ws_15[39]? = some (b12, .inl (cI, 801, .inl (fun jj => nI ((shU fr fm (i - 1)) jj)))) := by have h9 := shU_s (fr := fr) (n := fm) (i := i - 1) (by omega); rw [show i - 1 + 1 = i by omega] at h9; rw [← h9]; exact g39
                            exact ih_168 (i - 1) (by omega) (by omega) _ _ _ _ sm g33 g35 g36 g37 g38 g39 hP hD hS (lv_sub hl [1, 2, 3, 4, 5, 0] rfl)
                      have g39 : ws1[39]? = some (b12, .inl (cI, 801, .inl (fun jj => nI ((shU fr fm fm) jj)))) := by rw [shU_n]; exact g39
                      exact lp_168 _ fm (Nat.lt_succ_self _) (by omega) _ _ _ _ sm g33 g35 g36 g37 g38 g39 hP hD hS (lv_sub hl [1, 2, 3, 4, 5, 0] rfl)
                    · omega
                  · refine lv_aload_n hx hb dX9_comes_123 rfl (lv_at hl 0 rfl) ?_
                    refine va_get (D := D) (ci := 10) (v := .ref b12) (C := RX9) (T := TX9) (N := 32) hx hb hts hin_X9 hown hK hP 33 g33 rfl 12 (by decide) fl_48 (fun _ h9 => h9) rfl dX9_comes_124 ?_
                    refine lv_iload hx hb dX9_comes_127 (lv_at hl 4 rfl) ?_
                    refine lv_iconst (v := nI 1) hx hb dX9_comes_129 (by decide) ?_
                    refine nx_isub hx hb (by omega) dX9_comes_130 ?_
                    refine nx_iald hx hb hK hP 39 1 g39 rfl (k := (t - 1)) (by omega) (by decide) dX9_comes_131 ?_
                    refine lv_iload_n hx hb dX9_comes_132 rfl (lv_at hl 3 rfl) ?_
                    refine nx_icmp_le (tgt := 142) hx hb (by have := hfl (t - 1) (by omega); omega) (by omega) dX9_comes_133 (by decide) (fun c_133 => ?_) (fun c_133 => ?_)
                    · refine lv_iload hx hb dX9_comes_142 (lv_at hl 4 rfl) ?_
                      refine nx_if_le (tgt := 162) hx hb (by omega) dX9_comes_144 (by decide) (fun c_144 => ?_) (fun c_144 => ?_)
                      · omega
                      · refine lv_aload_n hx hb dX9_comes_147 rfl (lv_at hl 0 rfl) ?_
                        refine va_get (D := D) (ci := 10) (v := .ref b12) (C := RX9) (T := TX9) (N := 32) hx hb hts hin_X9 hown hK hP 33 g33 rfl 12 (by decide) fl_48 (fun _ h9 => h9) rfl dX9_comes_148 ?_
                        refine lv_iload hx hb dX9_comes_151 (lv_at hl 4 rfl) ?_
                        refine lv_iconst (v := nI 1) hx hb dX9_comes_153 (by decide) ?_
                        refine nx_isub hx hb (by omega) dX9_comes_154 ?_
                        refine nx_iald hx hb hK hP 39 1 g39 rfl (k := (t - 1)) (by omega) (by decide) dX9_comes_155 ?_
                        refine lv_iload_n hx hb dX9_comes_156 rfl (lv_at hl 3 rfl) ?_
                        refine nx_icmp_ne (tgt := 162) hx hb (by have := hfl (t - 1) (by omega); omega) (by omega) dX9_comes_157 (by decide) (fun c_157 => ?_) (fun c_157 => ?_)
                        · refine lv_aload_n hx hb dX9_comes_162 rfl (lv_at hl 0 rfl) ?_
                          refine va_get (D := D) (ci := 10) (v := .int (nI fm)) (C := RX9) (T := TX9) (N := 32) hx hb hts hin_X9 hown hK hP 33 g33 rfl 13 (by decide) fl_45 (fun _ h9 => h9) rfl dX9_comes_163 ?_
                          refine lv_istore (lv' := [(5, .int (nI fm)), (0, .ref m0), (1, .int (nI at_)), (2, .int (nI nn)), (3, .int (nI nm)), (4, .int (nI t))]) hx hb dX9_comes_166 hl (by decide) rfl (fun ls hl => ?_)
                          have lp_168 : ∀ (fuel : Nat) (i : Nat), i < fuel → (t ≤ i ∧ i ≤ fm) → ∀ (ws1 : va_W) (H : Heap) (locs : List Loc) (ls : Array Slot), Sm (fun k => k = 33 ∨ k = 36 ∨ k = 37 ∨ k = 38 ∨ k = 39) ws ws1 → ws1[33]? = some (m0, .inr (10, [.int (nI th), .ref b1, .ref b2, .int (nI len), .int (nI ps), .ref b5, .ref b6, .ref b7, .int (nI (nm + 1)), .int (nI (bt_ + nn)), .int (nI so), .int (nI wi), .ref b12, .int (nI fm), .ref b14, .ref b15, .ref b16, .int (nI dn), .int (nI ca), .int (nI sta), .ref b20, .ref b21, .ref b22, .ref b23, .ref b24, .int (nI xn), .ref b26, .int (nI bb), .int (nI rr), .int (nI pp), .int (nI qq), .ref b31])) → ws1[35]? = some (b2, .inl (cB, 801, .inl fp)) → ws1[36]? = some (b5, .inl (cB, 50800, .inl (cpB lf fp bt_ at_ i9))) → ws1[37]? = some (b6, .inl (cI, 6800, .inl (fun jj => nI ((va_up ff nm bt_) jj)))) → ws1[38]? = some (b7, .inl (cI, 6800, .inl (fun jj => nI ((va_up zf nm nn) jj)))) → ws1[39]? = some (b12, .inl (cI, 801, .inl (fun jj => nI ((shU fr fm i) jj)))) → va_P D vwCl ws1 H → va_D A ws1 → va_S A s.heap H locs → lv_has ls 6 [(0, .ref m0), (1, .int (nI at_)), (2, .int (nI nn)), (3, .int (nI nm)), (4, .int (nI t)), (5, .int (nI i))] → W p l e ({ frames := 1, cells := 0, slots := 0, locals := 25 }) s m ([.ref m0, .int (nI at_), .int (nI nn)] : List Value).toArray below meth c H locs 0 0 (ZI D (TY cB cI cJ cO) (fun r ws' => ∃ lf2 : Nat → Int32, ∃ ff2 : Nat → Nat, ∃ zf2 : Nat → Nat, ∃ fr2 : Nat → Nat, r = nI ((cmOk sh TX).toNat) ∧ (StM (cmA sh TX) lf2 ff2 zf2) ∧ (HdN fr2 (frA sh F TX)) ∧ Sm (fun k => k = 33 ∨ k = 36 ∨ k = 37 ∨ k = 38 ∨ k = 39) ws ws' ∧ ws'[33]? = some (m0, .inr (10, [.int (nI th), .ref b1, .ref b2, .int (nI len), .int (nI ps), .ref b5, .ref b6, .ref b7, .int (nI ((cmA sh TX).length)), .int (nI ((cmA sh TX).flatten.length)), .int (nI so), .int (nI wi), .ref b12, .int (nI ((frA sh F TX).length)), .ref b14, .ref b15, .ref b16, .int (nI dn), .int (nI ca), .int (nI sta), .ref b20, .ref b21, .ref b22, .ref b23, .ref b24, .int (nI xn), .ref b26, .int (nI bb), .int (nI rr), .int (nI pp), .int (nI qq), .ref b31])) ∧ ws'[36]? = some (b5, .inl (cB, 50800, .inl lf2)) ∧ ws'[37]? = some (b6, .inl (cI, 6800, .inl (fun jj => nI (ff2 jj)))) ∧ ws'[38]? = some (b7, .inl (cI, 6800, .inl (fun jj => nI (zf2 jj)))) ∧ ws'[39]? = some (b12, .inl (cI, 801, .inl (fun jj => nI (fr2 jj))))) below [.ref m0, .int (nI at_), .int (nI nn)] s 0 0 A) (F0 m 168 ls []) := by
                            intro fuel
                            induction fuel with
                            | zero => intro i hfu; exact absurd hfu (Nat.not_lt_zero _)
                            | succ fuel ih_168 =>
                              intro i hfu_168 hi ws1 H locs ls sm g33 g35 g36 g37 g38 g39 hP hD hS hl
                              refine lv_iload hx hb dX9_comes_168 (lv_at hl 5 rfl) ?_
                              refine lv_iload hx hb dX9_comes_170 (lv_at hl 4 rfl) ?_
                              refine nx_icmp_le (tgt := 197) hx hb (by omega) (by omega) dX9_comes_172 (by decide) (fun c_172 => ?_) (fun c_172 => ?_)
                              · refine lv_aload_n hx hb dX9_comes_197 rfl (lv_at hl 0 rfl) ?_
                                refine va_get (D := D) (ci := 10) (v := .ref b12) (C := RX9) (T := TX9) (N := 32) hx hb hts hin_X9 hown hK hP 33 g33 rfl 12 (by decide) fl_48 (fun _ h9 => h9) rfl dX9_comes_198 ?_
                                refine lv_iload hx hb dX9_comes_201 (lv_at hl 4 rfl) ?_
                                refine lv_iload_n hx hb dX9_comes_203 rfl (lv_at hl 3 rfl) ?_
                                refine nx_iastN hx hb hK hP hD hS 39 1 g39 rfl (k := t) (by omega) (by decide) dX9_comes_204 (fun ws_17 H locs gq up_18 hP hD hS => ?_)
                                have g39 : ws_17[39]? = some (b12, .inl (cI, 801, .inl (fun jj => nI ((va_up (shU fr fm i) t nm) jj)))) := gq
                                have g33 := up_18.get g33 (by decide)
                                have g35 := up_18.get g35 (by decide)
                                have g36 := up_18.get g36 (by decide)
                                have g37 := up_18.get g37 (by decide)
                                have g38 := up_18.get g38 (by decide)
                                have sm := sm.up up_18 (by simp)
                                refine lv_aload_n hx hb dX9_comes_205 rfl (lv_at hl 0 rfl) ?_
                                refine lv_dup hx hb dX9_comes_206 rfl ?_
                                refine va_get (D := D) (ci := 10) (v := .int (nI fm)) (C := RX9) (T := TX9) (N := 32) hx hb hts hin_X9 hown hK hP 33 g33 rfl 13 (by decide) fl_45 (fun _ h9 => h9) rfl dX9_comes_207 ?_
                                refine lv_iconst (v := nI 1) hx hb dX9_comes_210 (by decide) ?_
                                refine nx_iadd hx hb dX9_comes_211 ?_
                                refine nx_put (D := D) (ci := 10) (v := .int (nI (fm + 1))) (ty := .int) (C := RX9) (T := TX9) (N := 32) hx hb hts hin_X9 tyX9 tyX9_ok nmX9 hown hK hP hD hS 33 g33 rfl 13 (by decide) fl_45 (fun _ h9 => h9) rfl (by decide +kernel) rfl rfl (Nat.le_of_ble_eq_true rfl) dX9_comes_212 (fun ws_19 H locs gq up_20 hP hD hS => ?_)
                                have g33 : ws_19[33]? = some (m0, .inr (10, [.int (nI th), .ref b1, .ref b2, .int (nI len), .int (nI ps), .ref b5, .ref b6, .ref b7, .int (nI (nm + 1)), .int (nI (bt_ + nn)), .int (nI so), .int (nI wi), .ref b12, .int (nI (fm + 1)), .ref b14, .ref b15, .ref b16, .int (nI dn), .int (nI ca), .int (nI sta), .ref b20, .ref b21, .ref b22, .ref b23, .ref b24, .int (nI xn), .ref b26, .int (nI bb), .int (nI rr), .int (nI pp), .int (nI qq), .ref b31])) := gq
                                have g35 := up_20.get g35 (by decide)
                                have g36 := up_20.get g36 (by decide)
                                have g37 := up_20.get g37 (by decide)
                                have g38 := up_20.get g38 (by decide)
                                have g39 := up_20.get g39 (by decide)
                                have sm := sm.up up_20 (by simp)
                                refine lv_iconst (v := nI 1) hx hb dX9_comes_215 (by decide) ?_
                                have hcm := cma_new (F := F) hid (by omega) (by omega)
                                rw [hsn] at hcm
                                have hlo : ∀ q (hq : q < F.length), q < t → F[q] < nm := fun q hq h => ins_lo hRi hq h (by omega) (by rw [← hfr.at (by omega)]; omega)
                                have hins : insS nm F = F.take t ++ nm :: F.drop t := ins_at (by omega) hlo hhi
                                rw [hins] at hcm
                                have hil : (F.take t ++ nm :: F.drop t).length = fm + 1 := by rw [← hfm]; simp; omega
                                have hle1 : (sh ++ [TX]).length = nm + 1 := by rw [List.length_append, hsn]; rfl
                                have hle2 : (sh ++ [TX]).flatten.length = bt_ + nn := by rw [List.flatten_append, List.length_append, show [TX].flatten = TX by simp, hbt, hTl]
                                have g33 : ws_19[33]? = some (m0, .inr (10, [.int (nI th), .ref b1, .ref b2, .int (nI len), .int (nI ps), .ref b5, .ref b6, .ref b7, .int (nI ((cmA sh TX).length)), .int (nI ((cmA sh TX).flatten.length)), .int (nI so), .int (nI wi), .ref b12, .int (nI ((frA sh F TX).length)), .ref b14, .ref b15, .ref b16, .int (nI dn), .int (nI ca), .int (nI sta), .ref b20, .ref b21, .ref b22, .ref b23, .ref b24, .int (nI xn), .ref b26, .int (nI bb), .int (nI rr), .int (nI pp), .int (nI qq), .ref b31])) := by rw [hcm.2.1, hcm.2.2, hle1, hle2, hil]; exact g33
                                exact CI.ret (v := (nI 1)) C hK hP hD hS (by decide) (⟨_, _, _, _, (by rw [hcm.1]; rfl), (by rw [hcm.2.1]; have h9 := hst.app (fp := fp) (TX := TX) (at_ := at_) hTx; rw [hbt, hsn, hTl] at h9; rw [show i9 = nn by omega]; exact h9), (by rw [hcm.2.2]; have h9 := hfr.ins (t := t) (k := nm) (by omega); rw [hfm] at h9; rw [show i = t by omega]; exact h9), sm, g33, g36, g37, g38, g39⟩) hc0 hs0 dX9_comes_216
                              · refine lv_aload_n hx hb dX9_comes_175 rfl (lv_at hl 0 rfl) ?_
                                refine va_get (D := D) (ci := 10) (v := .ref b12) (C := RX9) (T := TX9) (N := 32) hx hb hts hin_X9 hown hK hP 33 g33 rfl 12 (by decide) fl_48 (fun _ h9 => h9) rfl dX9_comes_176 ?_
                                refine lv_iload hx hb dX9_comes_179 (lv_at hl 5 rfl) ?_
                                refine lv_aload_n hx hb dX9_comes_181 rfl (lv_at hl 0 rfl) ?_
                                refine va_get (D := D) (ci := 10) (v := .ref b12) (C := RX9) (T := TX9) (N := 32) hx hb hts hin_X9 hown hK hP 33 g33 rfl 12 (by decide) fl_48 (fun _ h9 => h9) rfl dX9_comes_182 ?_
                                refine lv_iload hx hb dX9_comes_185 (lv_at hl 5 rfl) ?_
                                refine lv_iconst (v := nI 1) hx hb dX9_comes_187 (by decide) ?_
                                refine nx_isub hx hb (by omega) dX9_comes_188 ?_
                                refine nx_iald hx hb hK hP 39 1 g39 rfl (k := (i - 1)) (by omega) (by decide) dX9_comes_189 ?_
                                refine nx_iastN hx hb hK hP hD hS 39 1 g39 rfl (k := i) (by omega) (by decide) dX9_comes_190 (fun ws_21 H locs gq up_22 hP hD hS => ?_)
                                have g39 : ws_21[39]? = some (b12, .inl (cI, 801, .inl (fun jj => nI ((va_up (shU fr fm i) i ((shU fr fm i) (i - 1))) jj)))) := gq
                                have g33 := up_22.get g33 (by decide)
                                have g35 := up_22.get g35 (by decide)
                                have g36 := up_22.get g36 (by decide)
                                have g37 := up_22.get g37 (by decide)
                                have g38 := up_22.get g38 (by decide)
                                have sm := sm.up up_22 (by simp)
                                refine lv_iinc (v := (nI (i - 1))) (lv' := [(5, .int (nI (i - 1))), (0, .ref m0), (1, .int (nI at_)), (2, .int (nI nn)), (3, .int (nI nm)), (4, .int (nI t))]) hx hb dX9_comes_191 hl (k := 5) rfl (nx_dec (n := 1) (by omega)) (by decide) rfl (fun ls hl => ?_)
                                refine lv_goto (tgt := 168) hx hb dX9_comes_194 (by decide) ?_
                                have g39 : ws_21[39]? = some (b12, .inl (cI, 801, .inl (fun jj => nI ((shU fr fm (i - 1)) jj)))) := by have h9 := shU_s (fr := fr) (n := fm) (i := i - 1) (by omega); rw [show i - 1 + 1 = i by omega] at h9; rw [← h9]; exact g39
                                exact ih_168 (i - 1) (by omega) (by omega) _ _ _ _ sm g33 g35 g36 g37 g38 g39 hP hD hS (lv_sub hl [1, 2, 3, 4, 5, 0] rfl)
                          have g39 : ws1[39]? = some (b12, .inl (cI, 801, .inl (fun jj => nI ((shU fr fm fm) jj)))) := by rw [shU_n]; exact g39
                          exact lp_168 _ fm (Nat.lt_succ_self _) (by omega) _ _ _ _ sm g33 g35 g36 g37 g38 g39 hP hD hS (lv_sub hl [1, 2, 3, 4, 5, 0] rfl)
                        · refine lv_iconst (v := nI 1) hx hb dX9_comes_160 (by decide) ?_
                          have hcm := cma_new (F := F) hid (by omega) (by omega)
                          rw [hsn] at hcm
                          have hins : insS nm F = F := ins_hit hRi (t := t - 1) (by omega) (by rw [← hfr.at (by omega)]; omega)
                          rw [hins] at hcm
                          have hle1 : (sh ++ [TX]).length = nm + 1 := by rw [List.length_append, hsn]; rfl
                          have hle2 : (sh ++ [TX]).flatten.length = bt_ + nn := by rw [List.flatten_append, List.length_append, show [TX].flatten = TX by simp, hbt, hTl]
                          have g33 : ws1[33]? = some (m0, .inr (10, [.int (nI th), .ref b1, .ref b2, .int (nI len), .int (nI ps), .ref b5, .ref b6, .ref b7, .int (nI ((cmA sh TX).length)), .int (nI ((cmA sh TX).flatten.length)), .int (nI so), .int (nI wi), .ref b12, .int (nI ((frA sh F TX).length)), .ref b14, .ref b15, .ref b16, .int (nI dn), .int (nI ca), .int (nI sta), .ref b20, .ref b21, .ref b22, .ref b23, .ref b24, .int (nI xn), .ref b26, .int (nI bb), .int (nI rr), .int (nI pp), .int (nI qq), .ref b31])) := by rw [hcm.2.1, hcm.2.2, hle1, hle2, hfm]; exact g33
                          exact CI.ret (v := (nI 1)) C hK hP hD hS (by decide) (⟨_, _, _, _, (by rw [hcm.1]; rfl), (by rw [hcm.2.1]; have h9 := hst.app (fp := fp) (TX := TX) (at_ := at_) hTx; rw [hbt, hsn, hTl] at h9; rw [show i9 = nn by omega]; exact h9), (by rw [hcm.2.2]; exact hfr), sm, g33, g36, g37, g38, g39⟩) hc0 hs0 dX9_comes_161
                    · refine lv_iinc (v := (nI (t - 1))) (lv' := [(4, .int (nI (t - 1))), (0, .ref m0), (1, .int (nI at_)), (2, .int (nI nn)), (3, .int (nI nm))]) hx hb dX9_comes_136 hl (k := 4) rfl (nx_dec (n := 1) (by omega)) (by decide) rfl (fun ls hl => ?_)
                      refine lv_goto (tgt := 118) hx hb dX9_comes_139 (by decide) ?_
                      exact ih_118 (t - 1) (by omega) (by omega) (fun q hq h => (Nat.lt_or_eq_of_le h).elim (fun h9 => hhi q hq (by omega)) (fun h9 => by subst h9; rw [← hfr.at (by omega)]; omega)) _ _ _ _ sm g33 g35 g36 g37 g38 g39 hP hD hS (lv_sub hl [1, 2, 3, 4, 0] rfl)
              exact lp_118 _ fm (Nat.lt_succ_self _) (by omega) (fun q hq h => absurd hq (by omega)) _ _ _ _ sm g33 g35 g36 g37 g38 g39 hP hD hS (lv_sub hl [1, 2, 3, 4, 0] rfl)
            · refine lv_aload_n hx hb dX9_comes_65 rfl (lv_at hl 0 rfl) ?_
              refine va_get (D := D) (ci := 10) (v := .ref b5) (C := RX9) (T := TX9) (N := 32) hx hb hts hin_X9 hown hK hP 33 g33 rfl 5 (by decide) fl_31 (fun _ h9 => h9) rfl dX9_comes_66 ?_
              refine lv_aload_n hx hb dX9_comes_69 rfl (lv_at hl 0 rfl) ?_
              refine va_get (D := D) (ci := 10) (v := .int (nI bt_)) (C := RX9) (T := TX9) (N := 32) hx hb hts hin_X9 hown hK hP 33 g33 rfl 9 (by decide) fl_41 (fun _ h9 => h9) rfl dX9_comes_70 ?_
              refine lv_iload hx hb dX9_comes_73 (lv_at hl 4 rfl) ?_
              refine nx_iadd hx hb dX9_comes_75 ?_
              refine lv_aload_n hx hb dX9_comes_76 rfl (lv_at hl 0 rfl) ?_
              refine va_get (D := D) (ci := 10) (v := .ref b2) (C := RX9) (T := TX9) (N := 32) hx hb hts hin_X9 hown hK hP 33 g33 rfl 2 (by decide) fl_21 (fun _ h9 => h9) rfl dX9_comes_77 ?_
              refine lv_iload_n hx hb dX9_comes_80 rfl (lv_at hl 1 rfl) ?_
              refine lv_iload hx hb dX9_comes_81 (lv_at hl 4 rfl) ?_
              refine nx_iadd hx hb dX9_comes_83 ?_
              refine nx_bald hx hb hK hP 35 0 g35 rfl (k := (at_ + i9)) (by omega) (by decide) dX9_comes_84 ?_
              refine nx_bast hx hb hK hP hD hS 36 0 g36 rfl (k := (bt_ + i9)) (by omega) (by decide) dX9_comes_85 (fun ws_23 H locs gq up_24 hP hD hS => ?_)
              have g36 : ws_23[36]? = some (b5, .inl (cB, 50800, .inl (upd (cpB lf fp bt_ at_ i9) (bt_ + i9) ((fp (at_ + i9)).toInt8.toInt32)))) := gq
              have g33 := up_24.get g33 (by decide)
              have g35 := up_24.get g35 (by decide)
              have g37 := up_24.get g37 (by decide)
              have g38 := up_24.get g38 (by decide)
              have g39 := up_24.get g39 (by decide)
              have sm := sm.up up_24 (by simp)
              refine lv_iinc (v := (nI (i9 + 1))) (lv' := [(4, .int (nI (i9 + 1))), (0, .ref m0), (1, .int (nI at_)), (2, .int (nI nn)), (3, .int (nI nm))]) hx hb dX9_comes_86 hl (k := 4) rfl (nx_inc _ 1) (by decide) rfl (fun ls hl => ?_)
              refine lv_goto (tgt := 59) hx hb dX9_comes_89 (by decide) ?_
              have g36 : ws_23[36]? = some (b5, .inl (cB, 50800, .inl (cpB lf fp bt_ at_ (i9 + 1)))) := by rw [← cpB_s (v := (fp (at_ + i9)).toInt8.toInt32) (by rw [hTx i9 (by omega)]; exact hTb _ (List.getElem_mem _))]; exact g36
              exact ih_59 (i9 + 1) (by omega) (by omega) _ _ _ _ sm g33 g35 g36 g37 g38 g39 hP hD hS (lv_sub hl [1, 2, 3, 4, 0] rfl)
        have g36 : ws_5[36]? = some (b5, .inl (cB, 50800, .inl (cpB lf fp bt_ at_ 0))) := by rw [cpB_0]; exact g36
        exact lp_59 _ 0 (Nat.lt_succ_self _) (by omega) _ _ _ _ sm g33 g35 g36 g37 g38 g39 hP hD hS (lv_sub hl [2, 3, 4, 1, 0] rfl)
      · refine lv_iconst (v := nI 0) hx hb dX9_comes_32 (by decide) ?_
        have hcm := cma_no (F := F) hid (by omega)
        have g33 : ws[33]? = some (m0, .inr (10, [.int (nI th), .ref b1, .ref b2, .int (nI len), .int (nI ps), .ref b5, .ref b6, .ref b7, .int (nI ((cmA sh TX).length)), .int (nI ((cmA sh TX).flatten.length)), .int (nI so), .int (nI wi), .ref b12, .int (nI ((frA sh F TX).length)), .ref b14, .ref b15, .ref b16, .int (nI dn), .int (nI ca), .int (nI sta), .ref b20, .ref b21, .ref b22, .ref b23, .ref b24, .int (nI xn), .ref b26, .int (nI bb), .int (nI rr), .int (nI pp), .int (nI qq), .ref b31])) := by rw [hcm.2.1, hcm.2.2, hsn, hbt, hfm]; exact g33
        exact CI.ret (v := (nI 0)) C hK hP hD hS (by decide) (⟨lf, ff, zf, fr, (by rw [hcm.1]; rfl), (by rw [hcm.2.1]; exact hst), (by rw [hcm.2.2]; exact hfr), sm, g33, g36, g37, g38, g39⟩) hc0 hs0 dX9_comes_33
  · try simp only [optI]
    have hkx := idxO_lt hid
    refine lv_istore_n (lv' := [(3, .int (nI kx)), (0, .ref m0), (1, .int (nI at_)), (2, .int (nI nn))]) hx hb dX9_comes_6 rfl hl (by decide) rfl (fun ls hl => ?_)
    refine lv_iload_n hx hb dX9_comes_7 rfl (lv_at hl 0 rfl) ?_
    refine nx_if_ge (tgt := 112) hx hb (by omega) dX9_comes_8 (by decide) ?_
    have hfl : ∀ q, q < F.length → fr q < 6001 := fun q hq => by have := hFn F[q] (List.getElem_mem _); rw [hfr.at hq]; omega
    refine lv_aload_n hx hb dX9_comes_112 rfl (lv_at hl 1 rfl) ?_
    refine va_get (D := D) (ci := 10) (v := .int (nI fm)) (C := RX9) (T := TX9) (N := 32) hx hb hts hin_X9 hown hK hP 33 g33 rfl 13 (by decide) fl_45 (fun _ h9 => h9) rfl dX9_comes_113 ?_
    refine lv_istore (lv' := [(4, .int (nI fm)), (3, .int (nI kx)), (0, .ref m0), (1, .int (nI at_)), (2, .int (nI nn))]) hx hb dX9_comes_116 hl (by decide) rfl (fun ls hl => ?_)
    have lp_118 : ∀ (fuel : Nat) (t : Nat), t < fuel → (t ≤ F.length) → (∀ q (hq : q < F.length), t ≤ q → kx < F[q]) → ∀ (ws1 : va_W) (H : Heap) (locs : List Loc) (ls : Array Slot), Sm (fun k => k = 33 ∨ k = 36 ∨ k = 37 ∨ k = 38 ∨ k = 39) ws ws1 → ws1[33]? = some (m0, .inr (10, [.int (nI th), .ref b1, .ref b2, .int (nI len), .int (nI ps), .ref b5, .ref b6, .ref b7, .int (nI nm), .int (nI bt_), .int (nI so), .int (nI wi), .ref b12, .int (nI fm), .ref b14, .ref b15, .ref b16, .int (nI dn), .int (nI ca), .int (nI sta), .ref b20, .ref b21, .ref b22, .ref b23, .ref b24, .int (nI xn), .ref b26, .int (nI bb), .int (nI rr), .int (nI pp), .int (nI qq), .ref b31])) → ws1[35]? = some (b2, .inl (cB, 801, .inl fp)) → ws1[36]? = some (b5, .inl (cB, 50800, .inl lf)) → ws1[37]? = some (b6, .inl (cI, 6800, .inl (fun jj => nI (ff jj)))) → ws1[38]? = some (b7, .inl (cI, 6800, .inl (fun jj => nI (zf jj)))) → ws1[39]? = some (b12, .inl (cI, 801, .inl (fun jj => nI (fr jj)))) → va_P D vwCl ws1 H → va_D A ws1 → va_S A s.heap H locs → lv_has ls 6 [(0, .ref m0), (1, .int (nI at_)), (2, .int (nI nn)), (3, .int (nI kx)), (4, .int (nI t))] → W p l e ({ frames := 1, cells := 0, slots := 0, locals := 25 }) s m ([.ref m0, .int (nI at_), .int (nI nn)] : List Value).toArray below meth c H locs 0 0 (ZI D (TY cB cI cJ cO) (fun r ws' => ∃ lf2 : Nat → Int32, ∃ ff2 : Nat → Nat, ∃ zf2 : Nat → Nat, ∃ fr2 : Nat → Nat, r = nI ((cmOk sh TX).toNat) ∧ (StM (cmA sh TX) lf2 ff2 zf2) ∧ (HdN fr2 (frA sh F TX)) ∧ Sm (fun k => k = 33 ∨ k = 36 ∨ k = 37 ∨ k = 38 ∨ k = 39) ws ws' ∧ ws'[33]? = some (m0, .inr (10, [.int (nI th), .ref b1, .ref b2, .int (nI len), .int (nI ps), .ref b5, .ref b6, .ref b7, .int (nI ((cmA sh TX).length)), .int (nI ((cmA sh TX).flatten.length)), .int (nI so), .int (nI wi), .ref b12, .int (nI ((frA sh F TX).length)), .ref b14, .ref b15, .ref b16, .int (nI dn), .int (nI ca), .int (nI sta), .ref b20, .ref b21, .ref b22, .ref b23, .ref b24, .int (nI xn), .ref b26, .int (nI bb), .int (nI rr), .int (nI pp), .int (nI qq), .ref b31])) ∧ ws'[36]? = some (b5, .inl (cB, 50800, .inl lf2)) ∧ ws'[37]? = some (b6, .inl (cI, 6800, .inl (fun jj => nI (ff2 jj)))) ∧ ws'[38]? = some (b7, .inl (cI, 6800, .inl (fun jj => nI (zf2 jj)))) ∧ ws'[39]? = some (b12, .inl (cI, 801, .inl (fun jj => nI (fr2 jj))))) below [.ref m0, .int (nI at_), .int (nI nn)] s 0 0 A) (F0 m 118 ls []) := by
      intro fuel
      induction fuel with
      | zero => intro t hfu; exact absurd hfu (Nat.not_lt_zero _)
      | succ fuel ih_118 =>
        intro t hfu_118 ht hhi ws1 H locs ls sm g33 g35 g36 g37 g38 g39 hP hD hS hl
        refine lv_iload hx hb dX9_comes_118 (lv_at hl 4 rfl) ?_
        refine nx_if_le (tgt := 142) hx hb (by omega) dX9_comes_120 (by decide) (fun c_120 => ?_) (fun c_120 => ?_)
        · refine lv_iload hx hb dX9_comes_142 (lv_at hl 4 rfl) ?_
          refine nx_if_le (tgt := 162) hx hb (by omega) dX9_comes_144 (by decide) (fun c_144 => ?_) (fun c_144 => ?_)
          · refine lv_aload_n hx hb dX9_comes_162 rfl (lv_at hl 0 rfl) ?_
            refine va_get (D := D) (ci := 10) (v := .int (nI fm)) (C := RX9) (T := TX9) (N := 32) hx hb hts hin_X9 hown hK hP 33 g33 rfl 13 (by decide) fl_45 (fun _ h9 => h9) rfl dX9_comes_163 ?_
            refine lv_istore (lv' := [(5, .int (nI fm)), (0, .ref m0), (1, .int (nI at_)), (2, .int (nI nn)), (3, .int (nI kx)), (4, .int (nI t))]) hx hb dX9_comes_166 hl (by decide) rfl (fun ls hl => ?_)
            have lp_168 : ∀ (fuel : Nat) (i : Nat), i < fuel → (t ≤ i ∧ i ≤ fm) → ∀ (ws1 : va_W) (H : Heap) (locs : List Loc) (ls : Array Slot), Sm (fun k => k = 33 ∨ k = 36 ∨ k = 37 ∨ k = 38 ∨ k = 39) ws ws1 → ws1[33]? = some (m0, .inr (10, [.int (nI th), .ref b1, .ref b2, .int (nI len), .int (nI ps), .ref b5, .ref b6, .ref b7, .int (nI nm), .int (nI bt_), .int (nI so), .int (nI wi), .ref b12, .int (nI fm), .ref b14, .ref b15, .ref b16, .int (nI dn), .int (nI ca), .int (nI sta), .ref b20, .ref b21, .ref b22, .ref b23, .ref b24, .int (nI xn), .ref b26, .int (nI bb), .int (nI rr), .int (nI pp), .int (nI qq), .ref b31])) → ws1[35]? = some (b2, .inl (cB, 801, .inl fp)) → ws1[36]? = some (b5, .inl (cB, 50800, .inl lf)) → ws1[37]? = some (b6, .inl (cI, 6800, .inl (fun jj => nI (ff jj)))) → ws1[38]? = some (b7, .inl (cI, 6800, .inl (fun jj => nI (zf jj)))) → ws1[39]? = some (b12, .inl (cI, 801, .inl (fun jj => nI ((shU fr fm i) jj)))) → va_P D vwCl ws1 H → va_D A ws1 → va_S A s.heap H locs → lv_has ls 6 [(0, .ref m0), (1, .int (nI at_)), (2, .int (nI nn)), (3, .int (nI kx)), (4, .int (nI t)), (5, .int (nI i))] → W p l e ({ frames := 1, cells := 0, slots := 0, locals := 25 }) s m ([.ref m0, .int (nI at_), .int (nI nn)] : List Value).toArray below meth c H locs 0 0 (ZI D (TY cB cI cJ cO) (fun r ws' => ∃ lf2 : Nat → Int32, ∃ ff2 : Nat → Nat, ∃ zf2 : Nat → Nat, ∃ fr2 : Nat → Nat, r = nI ((cmOk sh TX).toNat) ∧ (StM (cmA sh TX) lf2 ff2 zf2) ∧ (HdN fr2 (frA sh F TX)) ∧ Sm (fun k => k = 33 ∨ k = 36 ∨ k = 37 ∨ k = 38 ∨ k = 39) ws ws' ∧ ws'[33]? = some (m0, .inr (10, [.int (nI th), .ref b1, .ref b2, .int (nI len), .int (nI ps), .ref b5, .ref b6, .ref b7, .int (nI ((cmA sh TX).length)), .int (nI ((cmA sh TX).flatten.length)), .int (nI so), .int (nI wi), .ref b12, .int (nI ((frA sh F TX).length)), .ref b14, .ref b15, .ref b16, .int (nI dn), .int (nI ca), .int (nI sta), .ref b20, .ref b21, .ref b22, .ref b23, .ref b24, .int (nI xn), .ref b26, .int (nI bb), .int (nI rr), .int (nI pp), .int (nI qq), .ref b31])) ∧ ws'[36]? = some (b5, .inl (cB, 50800, .inl lf2)) ∧ ws'[37]? = some (b6, .inl (cI, 6800, .inl (fun jj => nI (ff2 jj)))) ∧ ws'[38]? = some (b7, .inl (cI, 6800, .inl (fun jj => nI (zf2 jj)))) ∧ ws'[39]? = some (b12, .inl (cI, 801, .inl (fun jj => nI (fr2 jj))))) below [.ref m0, .int (nI at_), .int (nI nn)] s 0 0 A) (F0 m 168 ls []) := by
              intro fuel
              induction fuel with
              | zero => intro i hfu; exact absurd hfu (Nat.not_lt_zero _)
              | succ fuel ih_168 =>
                intro i hfu_168 hi ws1 H locs ls sm g33 g35 g36 g37 g38 g39 hP hD hS hl
                refine lv_iload hx hb dX9_comes_168 (lv_at hl 5 rfl) ?_
                refine lv_iload hx hb dX9_comes_170 (lv_at hl 4 rfl) ?_
                refine nx_icmp_le (tgt := 197) hx hb (by omega) (by omega) dX9_comes_172 (by decide) (fun c_172 => ?_) (fun c_172 => ?_)
                · refine lv_aload_n hx hb dX9_comes_197 rfl (lv_at hl 0 rfl) ?_
                  refine va_get (D := D) (ci := 10) (v := .ref b12) (C := RX9) (T := TX9) (N := 32) hx hb hts hin_X9 hown hK hP 33 g33 rfl 12 (by decide) fl_48 (fun _ h9 => h9) rfl dX9_comes_198 ?_
                  refine lv_iload hx hb dX9_comes_201 (lv_at hl 4 rfl) ?_
                  refine lv_iload_n hx hb dX9_comes_203 rfl (lv_at hl 3 rfl) ?_
                  refine nx_iastN hx hb hK hP hD hS 39 1 g39 rfl (k := t) (by omega) (by decide) dX9_comes_204 (fun ws_25 H locs gq up_26 hP hD hS => ?_)
                  have g39 : ws_25[39]? = some (b12, .inl (cI, 801, .inl (fun jj => nI ((va_up (shU fr fm i) t kx) jj)))) := gq
                  have g33 := up_26.get g33 (by decide)
                  have g35 := up_26.get g35 (by decide)
                  have g36 := up_26.get g36 (by decide)
                  have g37 := up_26.get g37 (by decide)
                  have g38 := up_26.get g38 (by decide)
                  have sm := sm.up up_26 (by simp)
                  refine lv_aload_n hx hb dX9_comes_205 rfl (lv_at hl 0 rfl) ?_
                  refine lv_dup hx hb dX9_comes_206 rfl ?_
                  refine va_get (D := D) (ci := 10) (v := .int (nI fm)) (C := RX9) (T := TX9) (N := 32) hx hb hts hin_X9 hown hK hP 33 g33 rfl 13 (by decide) fl_45 (fun _ h9 => h9) rfl dX9_comes_207 ?_
                  refine lv_iconst (v := nI 1) hx hb dX9_comes_210 (by decide) ?_
                  refine nx_iadd hx hb dX9_comes_211 ?_
                  refine nx_put (D := D) (ci := 10) (v := .int (nI (fm + 1))) (ty := .int) (C := RX9) (T := TX9) (N := 32) hx hb hts hin_X9 tyX9 tyX9_ok nmX9 hown hK hP hD hS 33 g33 rfl 13 (by decide) fl_45 (fun _ h9 => h9) rfl (by decide +kernel) rfl rfl (Nat.le_of_ble_eq_true rfl) dX9_comes_212 (fun ws_27 H locs gq up_28 hP hD hS => ?_)
                  have g33 : ws_27[33]? = some (m0, .inr (10, [.int (nI th), .ref b1, .ref b2, .int (nI len), .int (nI ps), .ref b5, .ref b6, .ref b7, .int (nI nm), .int (nI bt_), .int (nI so), .int (nI wi), .ref b12, .int (nI (fm + 1)), .ref b14, .ref b15, .ref b16, .int (nI dn), .int (nI ca), .int (nI sta), .ref b20, .ref b21, .ref b22, .ref b23, .ref b24, .int (nI xn), .ref b26, .int (nI bb), .int (nI rr), .int (nI pp), .int (nI qq), .ref b31])) := gq
                  have g35 := up_28.get g35 (by decide)
                  have g36 := up_28.get g36 (by decide)
                  have g37 := up_28.get g37 (by decide)
                  have g38 := up_28.get g38 (by decide)
                  have g39 := up_28.get g39 (by decide)
                  have sm := sm.up up_28 (by simp)
                  refine lv_iconst (v := nI 1) hx hb dX9_comes_215 (by decide) ?_
                  have hcm := cma_some (F := F) hid
                  have hlo : ∀ q (hq : q < F.length), q < t → F[q] < kx := fun q hq h => ins_lo hRi hq h (by omega) (by rw [← hfr.at (by omega)]; omega)
                  have hins : insS kx F = F.take t ++ kx :: F.drop t := ins_at (by omega) hlo hhi
                  rw [hins] at hcm
                  have hil : (F.take t ++ kx :: F.drop t).length = fm + 1 := by rw [← hfm]; simp; omega
                  have hle1 : (sh).length = nm := by exact hsn
                  have hle2 : (sh).flatten.length = bt_ := by exact hbt
                  have g33 : ws_27[33]? = some (m0, .inr (10, [.int (nI th), .ref b1, .ref b2, .int (nI len), .int (nI ps), .ref b5, .ref b6, .ref b7, .int (nI ((cmA sh TX).length)), .int (nI ((cmA sh TX).flatten.length)), .int (nI so), .int (nI wi), .ref b12, .int (nI ((frA sh F TX).length)), .ref b14, .ref b15, .ref b16, .int (nI dn), .int (nI ca), .int (nI sta), .ref b20, .ref b21, .ref b22, .ref b23, .ref b24, .int (nI xn), .ref b26, .int (nI bb), .int (nI rr), .int (nI pp), .int (nI qq), .ref b31])) := by rw [hcm.2.1, hcm.2.2, hle1, hle2, hil]; exact g33
                  exact CI.ret (v := (nI 1)) C hK hP hD hS (by decide) (⟨_, _, _, _, (by rw [hcm.1]; rfl), (by rw [hcm.2.1]; exact hst), (by rw [hcm.2.2]; have h9 := hfr.ins (t := t) (k := kx) (by omega); rw [hfm] at h9; rw [show i = t by omega]; exact h9), sm, g33, g36, g37, g38, g39⟩) hc0 hs0 dX9_comes_216
                · refine lv_aload_n hx hb dX9_comes_175 rfl (lv_at hl 0 rfl) ?_
                  refine va_get (D := D) (ci := 10) (v := .ref b12) (C := RX9) (T := TX9) (N := 32) hx hb hts hin_X9 hown hK hP 33 g33 rfl 12 (by decide) fl_48 (fun _ h9 => h9) rfl dX9_comes_176 ?_
                  refine lv_iload hx hb dX9_comes_179 (lv_at hl 5 rfl) ?_
                  refine lv_aload_n hx hb dX9_comes_181 rfl (lv_at hl 0 rfl) ?_
                  refine va_get (D := D) (ci := 10) (v := .ref b12) (C := RX9) (T := TX9) (N := 32) hx hb hts hin_X9 hown hK hP 33 g33 rfl 12 (by decide) fl_48 (fun _ h9 => h9) rfl dX9_comes_182 ?_
                  refine lv_iload hx hb dX9_comes_185 (lv_at hl 5 rfl) ?_
                  refine lv_iconst (v := nI 1) hx hb dX9_comes_187 (by decide) ?_
                  refine nx_isub hx hb (by omega) dX9_comes_188 ?_
                  refine nx_iald hx hb hK hP 39 1 g39 rfl (k := (i - 1)) (by omega) (by decide) dX9_comes_189 ?_
                  refine nx_iastN hx hb hK hP hD hS 39 1 g39 rfl (k := i) (by omega) (by decide) dX9_comes_190 (fun ws_29 H locs gq up_30 hP hD hS => ?_)
                  have g39 : ws_29[39]? = some (b12, .inl (cI, 801, .inl (fun jj => nI ((va_up (shU fr fm i) i ((shU fr fm i) (i - 1))) jj)))) := gq
                  have g33 := up_30.get g33 (by decide)
                  have g35 := up_30.get g35 (by decide)
                  have g36 := up_30.get g36 (by decide)
                  have g37 := up_30.get g37 (by decide)
                  have g38 := up_30.get g38 (by decide)
                  have sm := sm.up up_30 (by simp)
                  refine lv_iinc (v := (nI (i - 1))) (lv' := [(5, .int (nI (i - 1))), (0, .ref m0), (1, .int (nI at_)), (2, .int (nI nn)), (3, .int (nI kx)), (4, .int (nI t))]) hx hb dX9_comes_191 hl (k := 5) rfl (nx_dec (n := 1) (by omega)) (by decide) rfl (fun ls hl => ?_)
                  refine lv_goto (tgt := 168) hx hb dX9_comes_194 (by decide) ?_
                  have g39 : ws_29[39]? = some (b12, .inl (cI, 801, .inl (fun jj => nI ((shU fr fm (i - 1)) jj)))) := by have h9 := shU_s (fr := fr) (n := fm) (i := i - 1) (by omega); rw [show i - 1 + 1 = i by omega] at h9; rw [← h9]; exact g39
                  exact ih_168 (i - 1) (by omega) (by omega) _ _ _ _ sm g33 g35 g36 g37 g38 g39 hP hD hS (lv_sub hl [1, 2, 3, 4, 5, 0] rfl)
            have g39 : ws1[39]? = some (b12, .inl (cI, 801, .inl (fun jj => nI ((shU fr fm fm) jj)))) := by rw [shU_n]; exact g39
            exact lp_168 _ fm (Nat.lt_succ_self _) (by omega) _ _ _ _ sm g33 g35 g36 g37 g38 g39 hP hD hS (lv_sub hl [1, 2, 3, 4, 5, 0] rfl)
          · omega
        · refine lv_aload_n hx hb dX9_comes_123 rfl (lv_at hl 0 rfl) ?_
          refine va_get (D := D) (ci := 10) (v := .ref b12) (C := RX9) (T := TX9) (N := 32) hx hb hts hin_X9 hown hK hP 33 g33 rfl 12 (by decide) fl_48 (fun _ h9 => h9) rfl dX9_comes_124 ?_
          refine lv_iload hx hb dX9_comes_127 (lv_at hl 4 rfl) ?_
          refine lv_iconst (v := nI 1) hx hb dX9_comes_129 (by decide) ?_
          refine nx_isub hx hb (by omega) dX9_comes_130 ?_
          refine nx_iald hx hb hK hP 39 1 g39 rfl (k := (t - 1)) (by omega) (by decide) dX9_comes_131 ?_
          refine lv_iload_n hx hb dX9_comes_132 rfl (lv_at hl 3 rfl) ?_
          refine nx_icmp_le (tgt := 142) hx hb (by have := hfl (t - 1) (by omega); omega) (by omega) dX9_comes_133 (by decide) (fun c_133 => ?_) (fun c_133 => ?_)
          · refine lv_iload hx hb dX9_comes_142 (lv_at hl 4 rfl) ?_
            refine nx_if_le (tgt := 162) hx hb (by omega) dX9_comes_144 (by decide) (fun c_144 => ?_) (fun c_144 => ?_)
            · omega
            · refine lv_aload_n hx hb dX9_comes_147 rfl (lv_at hl 0 rfl) ?_
              refine va_get (D := D) (ci := 10) (v := .ref b12) (C := RX9) (T := TX9) (N := 32) hx hb hts hin_X9 hown hK hP 33 g33 rfl 12 (by decide) fl_48 (fun _ h9 => h9) rfl dX9_comes_148 ?_
              refine lv_iload hx hb dX9_comes_151 (lv_at hl 4 rfl) ?_
              refine lv_iconst (v := nI 1) hx hb dX9_comes_153 (by decide) ?_
              refine nx_isub hx hb (by omega) dX9_comes_154 ?_
              refine nx_iald hx hb hK hP 39 1 g39 rfl (k := (t - 1)) (by omega) (by decide) dX9_comes_155 ?_
              refine lv_iload_n hx hb dX9_comes_156 rfl (lv_at hl 3 rfl) ?_
              refine nx_icmp_ne (tgt := 162) hx hb (by have := hfl (t - 1) (by omega); omega) (by omega) dX9_comes_157 (by decide) (fun c_157 => ?_) (fun c_157 => ?_)
              · refine lv_aload_n hx hb dX9_comes_162 rfl (lv_at hl 0 rfl) ?_
                refine va_get (D := D) (ci := 10) (v := .int (nI fm)) (C := RX9) (T := TX9) (N := 32) hx hb hts hin_X9 hown hK hP 33 g33 rfl 13 (by decide) fl_45 (fun _ h9 => h9) rfl dX9_comes_163 ?_
                refine lv_istore (lv' := [(5, .int (nI fm)), (0, .ref m0), (1, .int (nI at_)), (2, .int (nI nn)), (3, .int (nI kx)), (4, .int (nI t))]) hx hb dX9_comes_166 hl (by decide) rfl (fun ls hl => ?_)
                have lp_168 : ∀ (fuel : Nat) (i : Nat), i < fuel → (t ≤ i ∧ i ≤ fm) → ∀ (ws1 : va_W) (H : Heap) (locs : List Loc) (ls : Array Slot), Sm (fun k => k = 33 ∨ k = 36 ∨ k = 37 ∨ k = 38 ∨ k = 39) ws ws1 → ws1[33]? = some (m0, .inr (10, [.int (nI th), .ref b1, .ref b2, .int (nI len), .int (nI ps), .ref b5, .ref b6, .ref b7, .int (nI nm), .int (nI bt_), .int (nI so), .int (nI wi), .ref b12, .int (nI fm), .ref b14, .ref b15, .ref b16, .int (nI dn), .int (nI ca), .int (nI sta), .ref b20, .ref b21, .ref b22, .ref b23, .ref b24, .int (nI xn), .ref b26, .int (nI bb), .int (nI rr), .int (nI pp), .int (nI qq), .ref b31])) → ws1[35]? = some (b2, .inl (cB, 801, .inl fp)) → ws1[36]? = some (b5, .inl (cB, 50800, .inl lf)) → ws1[37]? = some (b6, .inl (cI, 6800, .inl (fun jj => nI (ff jj)))) → ws1[38]? = some (b7, .inl (cI, 6800, .inl (fun jj => nI (zf jj)))) → ws1[39]? = some (b12, .inl (cI, 801, .inl (fun jj => nI ((shU fr fm i) jj)))) → va_P D vwCl ws1 H → va_D A ws1 → va_S A s.heap H locs → lv_has ls 6 [(0, .ref m0), (1, .int (nI at_)), (2, .int (nI nn)), (3, .int (nI kx)), (4, .int (nI t)), (5, .int (nI i))] → W p l e ({ frames := 1, cells := 0, slots := 0, locals := 25 }) s m ([.ref m0, .int (nI at_), .int (nI nn)] : List Value).toArray below meth c H locs 0 0 (ZI D (TY cB cI cJ cO) (fun r ws' => ∃ lf2 : Nat → Int32, ∃ ff2 : Nat → Nat, ∃ zf2 : Nat → Nat, ∃ fr2 : Nat → Nat, r = nI ((cmOk sh TX).toNat) ∧ (StM (cmA sh TX) lf2 ff2 zf2) ∧ (HdN fr2 (frA sh F TX)) ∧ Sm (fun k => k = 33 ∨ k = 36 ∨ k = 37 ∨ k = 38 ∨ k = 39) ws ws' ∧ ws'[33]? = some (m0, .inr (10, [.int (nI th), .ref b1, .ref b2, .int (nI len), .int (nI ps), .ref b5, .ref b6, .ref b7, .int (nI ((cmA sh TX).length)), .int (nI ((cmA sh TX).flatten.length)), .int (nI so), .int (nI wi), .ref b12, .int (nI ((frA sh F TX).length)), .ref b14, .ref b15, .ref b16, .int (nI dn), .int (nI ca), .int (nI sta), .ref b20, .ref b21, .ref b22, .ref b23, .ref b24, .int (nI xn), .ref b26, .int (nI bb), .int (nI rr), .int (nI pp), .int (nI qq), .ref b31])) ∧ ws'[36]? = some (b5, .inl (cB, 50800, .inl lf2)) ∧ ws'[37]? = some (b6, .inl (cI, 6800, .inl (fun jj => nI (ff2 jj)))) ∧ ws'[38]? = some (b7, .inl (cI, 6800, .inl (fun jj => nI (zf2 jj)))) ∧ ws'[39]? = some (b12, .inl (cI, 801, .inl (fun jj => nI (fr2 jj))))) below [.ref m0, .int (nI at_), .int (nI nn)] s 0 0 A) (F0 m 168 ls []) := by
                  intro fuel
                  induction fuel with
                  | zero => intro i hfu; exact absurd hfu (Nat.not_lt_zero _)
                  | succ fuel ih_168 =>
                    intro i hfu_168 hi ws1 H locs ls sm g33 g35 g36 g37 g38 g39 hP hD hS hl
                    refine lv_iload hx hb dX9_comes_168 (lv_at hl 5 rfl) ?_
                    refine lv_iload hx hb dX9_comes_170 (lv_at hl 4 rfl) ?_
                    refine nx_icmp_le (tgt := 197) hx hb (by omega) (by omega) dX9_comes_172 (by decide) (fun c_172 => ?_) (fun c_172 => ?_)
                    · refine lv_aload_n hx hb dX9_comes_197 rfl (lv_at hl 0 rfl) ?_
                      refine va_get (D := D) (ci := 10) (v := .ref b12) (C := RX9) (T := TX9) (N := 32) hx hb hts hin_X9 hown hK hP 33 g33 rfl 12 (by decide) fl_48 (fun _ h9 => h9) rfl dX9_comes_198 ?_
                      refine lv_iload hx hb dX9_comes_201 (lv_at hl 4 rfl) ?_
                      refine lv_iload_n hx hb dX9_comes_203 rfl (lv_at hl 3 rfl) ?_
                      refine nx_iastN hx hb hK hP hD hS 39 1 g39 rfl (k := t) (by omega) (by decide) dX9_comes_204 (fun ws_31 H locs gq up_32 hP hD hS => ?_)
                      have g39 : ws_31[39]? = some (b12, .inl (cI, 801, .inl (fun jj => nI ((va_up (shU fr fm i) t kx) jj)))) := gq
                      have g33 := up_32.get g33 (by decide)
                      have g35 := up_32.get g35 (by decide)
                      have g36 := up_32.get g36 (by decide)
                      have g37 := up_32.get g37 (by decide)
                      have g38 := up_32.get g38 (by decide)
                      have sm := sm.up up_32 (by simp)
                      refine lv_aload_n hx hb dX9_comes_205 rfl (lv_at hl 0 rfl) ?_
                      refine lv_dup hx hb dX9_comes_206 rfl ?_
                      refine va_get (D := D) (ci := 10) (v := .int (nI fm)) (C := RX9) (T := TX9) (N := 32) hx hb hts hin_X9 hown hK hP 33 g33 rfl 13 (by decide) fl_45 (fun _ h9 => h9) rfl dX9_comes_207 ?_
                      refine lv_iconst (v := nI 1) hx hb dX9_comes_210 (by decide) ?_
                      refine nx_iadd hx hb dX9_comes_211 ?_
                      refine nx_put (D := D) (ci := 10) (v := .int (nI (fm + 1))) (ty := .int) (C := RX9) (T := TX9) (N := 32) hx hb hts hin_X9 tyX9 tyX9_ok nmX9 hown hK hP hD hS 33 g33 rfl 13 (by decide) fl_45 (fun _ h9 => h9) rfl (by decide +kernel) rfl rfl (Nat.le_of_ble_eq_true rfl) dX9_comes_212 (fun ws_33 H locs gq up_34 hP hD hS => ?_)
                      have g33 : ws_33[33]? = some (m0, .inr (10, [.int (nI th), .ref b1, .ref b2, .int (nI len), .int (nI ps), .ref b5, .ref b6, .ref b7, .int (nI nm), .int (nI bt_), .int (nI so), .int (nI wi), .ref b12, .int (nI (fm + 1)), .ref b14, .ref b15, .ref b16, .int (nI dn), .int (nI ca), .int (nI sta), .ref b20, .ref b21, .ref b22, .ref b23, .ref b24, .int (nI xn), .ref b26, .int (nI bb), .int (nI rr), .int (nI pp), .int (nI qq), .ref b31])) := gq
                      have g35 := up_34.get g35 (by decide)
                      have g36 := up_34.get g36 (by decide)
                      have g37 := up_34.get g37 (by decide)
                      have g38 := up_34.get g38 (by decide)
                      have g39 := up_34.get g39 (by decide)
                      have sm := sm.up up_34 (by simp)
                      refine lv_iconst (v := nI 1) hx hb dX9_comes_215 (by decide) ?_
                      have hcm := cma_some (F := F) hid
                      have hlo : ∀ q (hq : q < F.length), q < t → F[q] < kx := fun q hq h => ins_lo hRi hq h (by omega) (by rw [← hfr.at (by omega)]; omega)
                      have hins : insS kx F = F.take t ++ kx :: F.drop t := ins_at (by omega) hlo hhi
                      rw [hins] at hcm
                      have hil : (F.take t ++ kx :: F.drop t).length = fm + 1 := by rw [← hfm]; simp; omega
                      have hle1 : (sh).length = nm := by exact hsn
                      have hle2 : (sh).flatten.length = bt_ := by exact hbt
                      have g33 : ws_33[33]? = some (m0, .inr (10, [.int (nI th), .ref b1, .ref b2, .int (nI len), .int (nI ps), .ref b5, .ref b6, .ref b7, .int (nI ((cmA sh TX).length)), .int (nI ((cmA sh TX).flatten.length)), .int (nI so), .int (nI wi), .ref b12, .int (nI ((frA sh F TX).length)), .ref b14, .ref b15, .ref b16, .int (nI dn), .int (nI ca), .int (nI sta), .ref b20, .ref b21, .ref b22, .ref b23, .ref b24, .int (nI xn), .ref b26, .int (nI bb), .int (nI rr), .int (nI pp), .int (nI qq), .ref b31])) := by rw [hcm.2.1, hcm.2.2, hle1, hle2, hil]; exact g33
                      exact CI.ret (v := (nI 1)) C hK hP hD hS (by decide) (⟨_, _, _, _, (by rw [hcm.1]; rfl), (by rw [hcm.2.1]; exact hst), (by rw [hcm.2.2]; have h9 := hfr.ins (t := t) (k := kx) (by omega); rw [hfm] at h9; rw [show i = t by omega]; exact h9), sm, g33, g36, g37, g38, g39⟩) hc0 hs0 dX9_comes_216
                    · refine lv_aload_n hx hb dX9_comes_175 rfl (lv_at hl 0 rfl) ?_
                      refine va_get (D := D) (ci := 10) (v := .ref b12) (C := RX9) (T := TX9) (N := 32) hx hb hts hin_X9 hown hK hP 33 g33 rfl 12 (by decide) fl_48 (fun _ h9 => h9) rfl dX9_comes_176 ?_
                      refine lv_iload hx hb dX9_comes_179 (lv_at hl 5 rfl) ?_
                      refine lv_aload_n hx hb dX9_comes_181 rfl (lv_at hl 0 rfl) ?_
                      refine va_get (D := D) (ci := 10) (v := .ref b12) (C := RX9) (T := TX9) (N := 32) hx hb hts hin_X9 hown hK hP 33 g33 rfl 12 (by decide) fl_48 (fun _ h9 => h9) rfl dX9_comes_182 ?_
                      refine lv_iload hx hb dX9_comes_185 (lv_at hl 5 rfl) ?_
                      refine lv_iconst (v := nI 1) hx hb dX9_comes_187 (by decide) ?_
                      refine nx_isub hx hb (by omega) dX9_comes_188 ?_
                      refine nx_iald hx hb hK hP 39 1 g39 rfl (k := (i - 1)) (by omega) (by decide) dX9_comes_189 ?_
                      refine nx_iastN hx hb hK hP hD hS 39 1 g39 rfl (k := i) (by omega) (by decide) dX9_comes_190 (fun ws_35 H locs gq up_36 hP hD hS => ?_)
                      have g39 : ws_35[39]? = some (b12, .inl (cI, 801, .inl (fun jj => nI ((va_up (shU fr fm i) i ((shU fr fm i) (i - 1))) jj)))) := gq
                      have g33 := up_36.get g33 (by decide)
                      have g35 := up_36.get g35 (by decide)
                      have g36 := up_36.get g36 (by decide)
                      have g37 := up_36.get g37 (by decide)
                      have g38 := up_36.get g38 (by decide)
                      have sm := sm.up up_36 (by simp)
                      refine lv_iinc (v := (nI (i - 1))) (lv' := [(5, .int (nI (i - 1))), (0, .ref m0), (1, .int (nI at_)), (2, .int (nI nn)), (3, .int (nI kx)), (4, .int (nI t))]) hx hb dX9_comes_191 hl (k := 5) rfl (nx_dec (n := 1) (by omega)) (by decide) rfl (fun ls hl => ?_)
                      refine lv_goto (tgt := 168) hx hb dX9_comes_194 (by decide) ?_
                      have g39 : ws_35[39]? = some (b12, .inl (cI, 801, .inl (fun jj => nI ((shU fr fm (i - 1)) jj)))) := by have h9 := shU_s (fr := fr) (n := fm) (i := i - 1) (by omega); rw [show i - 1 + 1 = i by omega] at h9; rw [← h9]; exact g39
                      exact ih_168 (i - 1) (by omega) (by omega) _ _ _ _ sm g33 g35 g36 g37 g38 g39 hP hD hS (lv_sub hl [1, 2, 3, 4, 5, 0] rfl)
                have g39 : ws1[39]? = some (b12, .inl (cI, 801, .inl (fun jj => nI ((shU fr fm fm) jj)))) := by rw [shU_n]; exact g39
                exact lp_168 _ fm (Nat.lt_succ_self _) (by omega) _ _ _ _ sm g33 g35 g36 g37 g38 g39 hP hD hS (lv_sub hl [1, 2, 3, 4, 5, 0] rfl)
              · refine lv_iconst (v := nI 1) hx hb dX9_comes_160 (by decide) ?_
                have hcm := cma_some (F := F) hid
                have hins : insS kx F = F := ins_hit hRi (t := t - 1) (by omega) (by rw [← hfr.at (by omega)]; omega)
                rw [hins] at hcm
                have hle1 : (sh).length = nm := by exact hsn
                have hle2 : (sh).flatten.length = bt_ := by exact hbt
                have g33 : ws1[33]? = some (m0, .inr (10, [.int (nI th), .ref b1, .ref b2, .int (nI len), .int (nI ps), .ref b5, .ref b6, .ref b7, .int (nI ((cmA sh TX).length)), .int (nI ((cmA sh TX).flatten.length)), .int (nI so), .int (nI wi), .ref b12, .int (nI ((frA sh F TX).length)), .ref b14, .ref b15, .ref b16, .int (nI dn), .int (nI ca), .int (nI sta), .ref b20, .ref b21, .ref b22, .ref b23, .ref b24, .int (nI xn), .ref b26, .int (nI bb), .int (nI rr), .int (nI pp), .int (nI qq), .ref b31])) := by rw [hcm.2.1, hcm.2.2, hle1, hle2, hfm]; exact g33
                exact CI.ret (v := (nI 1)) C hK hP hD hS (by decide) (⟨_, _, _, _, (by rw [hcm.1]; rfl), (by rw [hcm.2.1]; exact hst), (by rw [hcm.2.2]; exact hfr), sm, g33, g36, g37, g38, g39⟩) hc0 hs0 dX9_comes_161
          · refine lv_iinc (v := (nI (t - 1))) (lv' := [(4, .int (nI (t - 1))), (0, .ref m0), (1, .int (nI at_)), (2, .int (nI nn)), (3, .int (nI kx))]) hx hb dX9_comes_136 hl (k := 4) rfl (nx_dec (n := 1) (by omega)) (by decide) rfl (fun ls hl => ?_)
            refine lv_goto (tgt := 118) hx hb dX9_comes_139 (by decide) ?_
            exact ih_118 (t - 1) (by omega) (by omega) (fun q hq h => (Nat.lt_or_eq_of_le h).elim (fun h9 => hhi q hq (by omega)) (fun h9 => by subst h9; rw [← hfr.at (by omega)]; omega)) _ _ _ _ sm g33 g35 g36 g37 g38 g39 hP hD hS (lv_sub hl [1, 2, 3, 4, 0] rfl)
    exact lp_118 _ fm (Nat.lt_succ_self _) (by omega) (fun q hq h => absurd hq (by omega)) _ _ _ _ sm g33 g35 g36 g37 g38 g39 hP hD hS (lv_sub hl [2, 3, 4, 1, 0] rfl)
