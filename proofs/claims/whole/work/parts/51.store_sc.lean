set_option maxHeartbeats 4000000 in
set_option maxRecDepth 100000 in
theorem c_X6_enter {D : va_G} {cB cI cJ cO : ClassId} {l : Launch} {t0 t1 t2 t3 t4 nm : Nat} {lf : Nat → Int32} {bf sf se : Nat → Nat} {sh : List (List Int32)} {tx : Nat} {fp : Nat → Int32} {at_ to_ : Nat} {TX : List Int32} {st_ : Nat} {ws : va_W} (g5 : ws[5]? = some (t0, .inr (7, [.ref t1, .ref t2, .ref t3, .ref t4, .int (nI nm)]))) (g6 : ws[6]? = some (t1, .inl (cB, 50000, .inl lf))) (g7 : ws[7]? = some (t2, .inl (cI, 6001, .inl (fun jj => nI (bf jj))))) (g8 : ws[8]? = some (t3, .inl (cI, 6000, .inl (fun jj => nI (sf jj))))) (g9 : ws[9]? = some (t4, .inl (cI, 16384, .inl (fun jj => nI (se jj))))) (g3 : ws[3]? = some (tx, .inl (cB, 800, .inl fp))) (hst : StC sh lf bf sf se) (hsn : sh.length = nm) (hn6 : nm ≤ 6000) (hby : sh.flatten.length ≤ 50000) (hTl : TX.length = to_ - at_) (hat : at_ ≤ to_) (hto : to_ ≤ 800) (hTx : ∀ t (ht : t < TX.length), fp (at_ + t) = TX[t]) (hTb : ∀ x ∈ TX, x.toInt8.toInt32 = x) (hsr : Srch sh se TX st_) (hst6 : st_ < 16384) (hse0 : se ((haS TX + st_) % 16384) = 0) : CI D (TY cB cI cJ cO) l yX6_enter wsX6_enter ({ frames := 0, cells := 0, slots := 0, locals := 0 }) [.ref t0, .ref tx, .int (nI at_), .int (nI to_), .int (nI ((haS TX + st_) % 16384))] ws (fun r ws' => ∃ lf2 : Nat → Int32, ∃ bf2 : Nat → Nat, ∃ sf2 : Nat → Nat, ∃ se2 : Nat → Nat, r = numR sh TX ∧ (StC (cmA sh TX) lf2 bf2 sf2 se2) ∧ Sm (fun k => k = 5 ∨ k = 6 ∨ k = 7 ∨ k = 8 ∨ k = 9) ws ws' ∧ ws'[5]? = some (t0, .inr (7, [.ref t1, .ref t2, .ref t3, .ref t4, .int (nI ((cmA sh TX).length))])) ∧ ws'[6]? = some (t1, .inl (cB, 50000, .inl lf2)) ∧ ws'[7]? = some (t2, .inl (cI, 6001, .inl (fun jj => nI (bf2 jj)))) ∧ ws'[8]? = some (t3, .inl (cI, 6000, .inl (fun jj => nI (sf2 jj)))) ∧ ws'[9]? = some (t4, .inl (cI, 16384, .inl (fun jj => nI (se2 jj))))) := by
  refine CI.of (cc := cX6_enter) (maxL := 7) (ret := (some .int)) (by decide) rfl (Nat.le_of_ble_eq_true rfl) ?_
  intro p e s m below meth c A C hK hP hD hA hS ls hl
  obtain ⟨hx, hb, hr, hml, hts, hown, hlocks, hnm⟩ := id C
  have fl_10 := hts (.fieldLink RX6 10 "TwinFinder$Store" "letters" "[B") (by decide +kernel)
  have fl_16 := hts (.fieldLink RX6 16 "TwinFinder$Store" "begin" "[I") (by decide +kernel)
  have fl_20 := hts (.fieldLink RX6 20 "TwinFinder$Store" "seatOf" "[I") (by decide +kernel)
  have fl_23 := hts (.fieldLink RX6 23 "TwinFinder$Store" "seats" "[I") (by decide +kernel)
  have fl_26 := hts (.fieldLink RX6 26 "TwinFinder$Store" "given" "I") (by decide +kernel)
  have hin_X6 : ∀ w ∈ u_ws RX6 TX6 5, w ∈ wsX6_enter := by decide +kernel
  have hl : lv_has ls 7 [(0, .ref t0), (1, .ref tx), (2, .int (nI at_)), (3, .int (nI to_)), (4, .int (nI ((haS TX + st_) % 16384)))] := hl
  have sm : Sm (fun k => k = 5 ∨ k = 6 ∨ k = 7 ∨ k = 8 ∨ k = 9) ws ws := Sm.rf
  have hc0 : (0 : Nat) ≤ 0 := by decide
  have hs0 : (0 : Nat) ≤ 0 := by decide
  have hid := hsr.none hst hse0
  have hbg : bf nm = sh.flatten.length := by rw [hst.2.1 nm (by omega), ← hsn, ofs_all]
  refine lv_aload_n hx hb dX6_enter_0 rfl (lv_at hl 0 rfl) ?_
  refine va_get (D := D) (ci := 7) (v := .ref t2) (C := RX6) (T := TX6) (N := 5) hx hb hts hin_X6 hown hK hP 5 g5 rfl 1 (by decide) fl_16 (fun _ h9 => h9) rfl dX6_enter_1 ?_
  refine lv_aload_n hx hb dX6_enter_4 rfl (lv_at hl 0 rfl) ?_
  refine va_get (D := D) (ci := 7) (v := .int (nI nm)) (C := RX6) (T := TX6) (N := 5) hx hb hts hin_X6 hown hK hP 5 g5 rfl 4 (by decide) fl_26 (fun _ h9 => h9) rfl dX6_enter_5 ?_
  refine nx_iald hx hb hK hP 7 1 g7 rfl (k := nm) (by omega) (by decide) dX6_enter_8 ?_
  refine lv_istore (lv' := [(5, .int (nI (bf nm))), (0, .ref t0), (1, .ref tx), (2, .int (nI at_)), (3, .int (nI to_)), (4, .int (nI ((haS TX + st_) % 16384)))]) hx hb dX6_enter_9 hl (by decide) rfl (fun ls hl => ?_)
  refine lv_aload_n hx hb dX6_enter_11 rfl (lv_at hl 1 rfl) ?_
  refine va_get (D := D) (ci := 7) (v := .int (nI nm)) (C := RX6) (T := TX6) (N := 5) hx hb hts hin_X6 hown hK hP 5 g5 rfl 4 (by decide) fl_26 (fun _ h9 => h9) rfl dX6_enter_12 ?_
  refine lv_sipush (v := nI 6000) hx hb dX6_enter_15 (by decide) ?_
  refine nx_icmp_ge (tgt := 32) hx hb (by omega) (by omega) dX6_enter_18 (by decide) (fun c_18 => ?_) (fun c_18 => ?_)
  · refine lv_iconst (v := -1) hx hb dX6_enter_32 (by decide) ?_
    have hcm := cma_no (F := []) hid (by omega)
    have g5 : ws[5]? = some (t0, .inr (7, [.ref t1, .ref t2, .ref t3, .ref t4, .int (nI ((cmA sh TX).length))])) := by rw [hcm.2.1, hsn]; exact g5
    exact CI.ret (v := (-1)) C hK hP hD hS rfl (⟨lf, bf, sf, se, (by rw [numR, hcm.1]; rfl), (by rw [hcm.2.1]; exact hst), sm, g5, g6, g7, g8, g9⟩) hc0 hs0 dX6_enter_33
  · refine lv_iload hx hb dX6_enter_21 (lv_at hl 0 rfl) ?_
    refine lv_iload_n hx hb dX6_enter_23 rfl (lv_at hl 4 rfl) ?_
    refine nx_iadd hx hb dX6_enter_24 ?_
    refine lv_iload_n hx hb dX6_enter_25 rfl (lv_at hl 3 rfl) ?_
    refine nx_isub hx hb (by omega) dX6_enter_26 ?_
    refine lv_ldc (v := nI 50000) hx hb hown (hts (.constant RX6 9 50000) (by decide +kernel)) dX6_enter_27 ?_
    refine nx_icmp_le (tgt := 34) hx hb (by omega) (by omega) dX6_enter_29 (by decide) (fun c_29 => ?_) (fun c_29 => ?_)
    · refine lv_iload_n hx hb dX6_enter_34 rfl (lv_at hl 3 rfl) ?_
      refine lv_istore (lv' := [(6, .int (nI at_)), (5, .int (nI (bf nm))), (0, .ref t0), (1, .ref tx), (2, .int (nI at_)), (3, .int (nI to_)), (4, .int (nI ((haS TX + st_) % 16384)))]) hx hb dX6_enter_35 hl (by decide) rfl (fun ls hl => ?_)
      have lp_37 : ∀ (fuel : Nat) (i : Nat), TX.length - i < fuel → (i ≤ TX.length) → ∀ (ws1 : va_W) (H : Heap) (locs : List Loc) (ls : Array Slot), Sm (fun k => k = 5 ∨ k = 6 ∨ k = 7 ∨ k = 8 ∨ k = 9) ws ws1 → ws1[5]? = some (t0, .inr (7, [.ref t1, .ref t2, .ref t3, .ref t4, .int (nI nm)])) → ws1[6]? = some (t1, .inl (cB, 50000, .inl (cpB lf fp (bf nm) at_ i))) → ws1[7]? = some (t2, .inl (cI, 6001, .inl (fun jj => nI (bf jj)))) → ws1[8]? = some (t3, .inl (cI, 6000, .inl (fun jj => nI (sf jj)))) → ws1[9]? = some (t4, .inl (cI, 16384, .inl (fun jj => nI (se jj)))) → ws1[3]? = some (tx, .inl (cB, 800, .inl fp)) → va_P D vwCl ws1 H → va_D A ws1 → va_S A s.heap H locs → lv_has ls 7 [(0, .ref t0), (1, .ref tx), (2, .int (nI at_)), (3, .int (nI to_)), (4, .int (nI ((haS TX + st_) % 16384))), (5, .int (nI (bf nm))), (6, .int (nI (at_ + i)))] → W p l e ({ frames := 0, cells := 0, slots := 0, locals := 0 }) s m ([.ref t0, .ref tx, .int (nI at_), .int (nI to_), .int (nI ((haS TX + st_) % 16384))] : List Value).toArray below meth c H locs 0 0 (ZI D (TY cB cI cJ cO) (fun r ws' => ∃ lf2 : Nat → Int32, ∃ bf2 : Nat → Nat, ∃ sf2 : Nat → Nat, ∃ se2 : Nat → Nat, r = numR sh TX ∧ (StC (cmA sh TX) lf2 bf2 sf2 se2) ∧ Sm (fun k => k = 5 ∨ k = 6 ∨ k = 7 ∨ k = 8 ∨ k = 9) ws ws' ∧ ws'[5]? = some (t0, .inr (7, [.ref t1, .ref t2, .ref t3, .ref t4, .int (nI ((cmA sh TX).length))])) ∧ ws'[6]? = some (t1, .inl (cB, 50000, .inl lf2)) ∧ ws'[7]? = some (t2, .inl (cI, 6001, .inl (fun jj => nI (bf2 jj)))) ∧ ws'[8]? = some (t3, .inl (cI, 6000, .inl (fun jj => nI (sf2 jj)))) ∧ ws'[9]? = some (t4, .inl (cI, 16384, .inl (fun jj => nI (se2 jj))))) below [.ref t0, .ref tx, .int (nI at_), .int (nI to_), .int (nI ((haS TX + st_) % 16384))] s 0 0 A) (F0 m 37 ls []) := by
        intro fuel
        induction fuel with
        | zero => intro i hfu; exact absurd hfu (Nat.not_lt_zero _)
        | succ fuel ih_37 =>
          intro i hfu_37 hi ws1 H locs ls sm g5 g6 g7 g8 g9 g3 hP hD hS hl
          refine lv_iload hx hb dX6_enter_37 (lv_at hl 6 rfl) ?_
          refine lv_iload_n hx hb dX6_enter_39 rfl (lv_at hl 3 rfl) ?_
          refine nx_icmp_ge (tgt := 65) hx hb (by omega) (by omega) dX6_enter_40 (by decide) (fun c_40 => ?_) (fun c_40 => ?_)
          · refine lv_aload_n hx hb dX6_enter_65 rfl (lv_at hl 0 rfl) ?_
            refine va_get (D := D) (ci := 7) (v := .ref t4) (C := RX6) (T := TX6) (N := 5) hx hb hts hin_X6 hown hK hP 5 g5 rfl 3 (by decide) fl_23 (fun _ h9 => h9) rfl dX6_enter_66 ?_
            refine lv_iload hx hb dX6_enter_69 (lv_at hl 4 rfl) ?_
            refine lv_aload_n hx hb dX6_enter_71 rfl (lv_at hl 0 rfl) ?_
            refine va_get (D := D) (ci := 7) (v := .int (nI nm)) (C := RX6) (T := TX6) (N := 5) hx hb hts hin_X6 hown hK hP 5 g5 rfl 4 (by decide) fl_26 (fun _ h9 => h9) rfl dX6_enter_72 ?_
            refine lv_iconst (v := nI 1) hx hb dX6_enter_75 (by decide) ?_
            refine nx_iadd hx hb dX6_enter_76 ?_
            refine nx_iastN hx hb hK hP hD hS 9 1 g9 rfl (k := ((haS TX + st_) % 16384)) (by omega) (by decide) dX6_enter_77 (fun ws_1 H locs gq up_2 hP hD hS => ?_)
            have g9 : ws_1[9]? = some (t4, .inl (cI, 16384, .inl (fun jj => nI ((va_up se ((haS TX + st_) % 16384) (nm + 1)) jj)))) := gq
            have g5 := up_2.get g5 (by decide)
            have g6 := up_2.get g6 (by decide)
            have g7 := up_2.get g7 (by decide)
            have g8 := up_2.get g8 (by decide)
            have g3 := up_2.get g3 (by decide)
            have sm := sm.up up_2 (by simp)
            refine lv_aload_n hx hb dX6_enter_78 rfl (lv_at hl 0 rfl) ?_
            refine va_get (D := D) (ci := 7) (v := .ref t3) (C := RX6) (T := TX6) (N := 5) hx hb hts hin_X6 hown hK hP 5 g5 rfl 2 (by decide) fl_20 (fun _ h9 => h9) rfl dX6_enter_79 ?_
            refine lv_aload_n hx hb dX6_enter_82 rfl (lv_at hl 0 rfl) ?_
            refine va_get (D := D) (ci := 7) (v := .int (nI nm)) (C := RX6) (T := TX6) (N := 5) hx hb hts hin_X6 hown hK hP 5 g5 rfl 4 (by decide) fl_26 (fun _ h9 => h9) rfl dX6_enter_83 ?_
            refine lv_iload hx hb dX6_enter_86 (lv_at hl 4 rfl) ?_
            refine nx_iastN hx hb hK hP hD hS 8 1 g8 rfl (k := nm) (by omega) (by decide) dX6_enter_88 (fun ws_3 H locs gq up_4 hP hD hS => ?_)
            have g8 : ws_3[8]? = some (t3, .inl (cI, 6000, .inl (fun jj => nI ((va_up sf nm ((haS TX + st_) % 16384)) jj)))) := gq
            have g5 := up_4.get g5 (by decide)
            have g6 := up_4.get g6 (by decide)
            have g7 := up_4.get g7 (by decide)
            have g9 := up_4.get g9 (by decide)
            have g3 := up_4.get g3 (by decide)
            have sm := sm.up up_4 (by simp)
            refine lv_aload_n hx hb dX6_enter_89 rfl (lv_at hl 0 rfl) ?_
            refine lv_dup hx hb dX6_enter_90 rfl ?_
            refine va_get (D := D) (ci := 7) (v := .int (nI nm)) (C := RX6) (T := TX6) (N := 5) hx hb hts hin_X6 hown hK hP 5 g5 rfl 4 (by decide) fl_26 (fun _ h9 => h9) rfl dX6_enter_91 ?_
            refine lv_iconst (v := nI 1) hx hb dX6_enter_94 (by decide) ?_
            refine nx_iadd hx hb dX6_enter_95 ?_
            refine nx_put (D := D) (ci := 7) (v := .int (nI (nm + 1))) (ty := .int) (C := RX6) (T := TX6) (N := 5) hx hb hts hin_X6 tyX6 tyX6_ok nmX6 hown hK hP hD hS 5 g5 rfl 4 (by decide) fl_26 (fun _ h9 => h9) rfl (by decide +kernel) rfl rfl (Nat.le_of_ble_eq_true rfl) dX6_enter_96 (fun ws_5 H locs gq up_6 hP hD hS => ?_)
            have g5 : ws_5[5]? = some (t0, .inr (7, [.ref t1, .ref t2, .ref t3, .ref t4, .int (nI (nm + 1))])) := gq
            have g6 := up_6.get g6 (by decide)
            have g7 := up_6.get g7 (by decide)
            have g8 := up_6.get g8 (by decide)
            have g9 := up_6.get g9 (by decide)
            have g3 := up_6.get g3 (by decide)
            have sm := sm.up up_6 (by simp)
            refine lv_aload_n hx hb dX6_enter_99 rfl (lv_at hl 0 rfl) ?_
            refine va_get (D := D) (ci := 7) (v := .ref t2) (C := RX6) (T := TX6) (N := 5) hx hb hts hin_X6 hown hK hP 5 g5 rfl 1 (by decide) fl_16 (fun _ h9 => h9) rfl dX6_enter_100 ?_
            refine lv_aload_n hx hb dX6_enter_103 rfl (lv_at hl 0 rfl) ?_
            refine va_get (D := D) (ci := 7) (v := .int (nI (nm + 1))) (C := RX6) (T := TX6) (N := 5) hx hb hts hin_X6 hown hK hP 5 g5 rfl 4 (by decide) fl_26 (fun _ h9 => h9) rfl dX6_enter_104 ?_
            refine lv_iload hx hb dX6_enter_107 (lv_at hl 5 rfl) ?_
            refine lv_iload_n hx hb dX6_enter_109 rfl (lv_at hl 3 rfl) ?_
            refine nx_iadd hx hb dX6_enter_110 ?_
            refine lv_iload_n hx hb dX6_enter_111 rfl (lv_at hl 2 rfl) ?_
            refine nx_isub hx hb (by omega) dX6_enter_112 ?_
            refine nx_iastN hx hb hK hP hD hS 7 1 g7 rfl (k := (nm + 1)) (by omega) (by decide) dX6_enter_113 (fun ws_7 H locs gq up_8 hP hD hS => ?_)
            have g7 : ws_7[7]? = some (t2, .inl (cI, 6001, .inl (fun jj => nI ((va_up bf (nm + 1) (((bf nm) + to_) - at_)) jj)))) := gq
            have g5 := up_8.get g5 (by decide)
            have g6 := up_8.get g6 (by decide)
            have g8 := up_8.get g8 (by decide)
            have g9 := up_8.get g9 (by decide)
            have g3 := up_8.get g3 (by decide)
            have sm := sm.up up_8 (by simp)
            refine lv_aload_n hx hb dX6_enter_114 rfl (lv_at hl 0 rfl) ?_
            refine va_get (D := D) (ci := 7) (v := .int (nI (nm + 1))) (C := RX6) (T := TX6) (N := 5) hx hb hts hin_X6 hown hK hP 5 g5 rfl 4 (by decide) fl_26 (fun _ h9 => h9) rfl dX6_enter_115 ?_
            refine lv_iconst (v := nI 1) hx hb dX6_enter_118 (by decide) ?_
            refine nx_isub hx hb (by omega) dX6_enter_119 ?_
            have hcm := cma_new (F := []) hid (by omega) (by omega)
            have hle1 : (sh ++ [TX]).length = nm + 1 := by rw [List.length_append, hsn]; rfl
            have g5 : ws_7[5]? = some (t0, .inr (7, [.ref t1, .ref t2, .ref t3, .ref t4, .int (nI ((cmA sh TX).length))])) := by rw [hcm.2.1, hle1]; exact g5
            exact CI.ret (v := (nI ((nm + 1) - 1))) C hK hP hD hS rfl (⟨_, _, _, _, (by rw [numR, hcm.1, cmK, hid, ← hsn]; rfl), (by rw [hcm.2.1]; have h9 := hst.app (fp := fp) (at_ := at_) hTx hsr hst6 hse0; rw [← hbg, hsn] at h9; rw [show bf nm + to_ - at_ = bf nm + TX.length by omega, show i = TX.length by omega]; exact h9), sm, g5, g6, g7, g8, g9⟩) hc0 hs0 dX6_enter_120
          · refine lv_aload_n hx hb dX6_enter_43 rfl (lv_at hl 0 rfl) ?_
            refine va_get (D := D) (ci := 7) (v := .ref t1) (C := RX6) (T := TX6) (N := 5) hx hb hts hin_X6 hown hK hP 5 g5 rfl 0 (by decide) fl_10 (fun _ h9 => h9) rfl dX6_enter_44 ?_
            refine lv_iload hx hb dX6_enter_47 (lv_at hl 5 rfl) ?_
            refine lv_iload hx hb dX6_enter_49 (lv_at hl 6 rfl) ?_
            refine nx_iadd hx hb dX6_enter_51 ?_
            refine lv_iload_n hx hb dX6_enter_52 rfl (lv_at hl 2 rfl) ?_
            refine nx_isub hx hb (by omega) dX6_enter_53 ?_
            refine lv_aload_n hx hb dX6_enter_54 rfl (lv_at hl 1 rfl) ?_
            refine lv_iload hx hb dX6_enter_55 (lv_at hl 6 rfl) ?_
            refine nx_bald hx hb hK hP 3 0 g3 rfl (k := (at_ + i)) (by omega) (by decide) dX6_enter_57 ?_
            refine nx_bast hx hb hK hP hD hS 6 0 g6 rfl (k := (((bf nm) + (at_ + i)) - at_)) (by omega) (by decide) dX6_enter_58 (fun ws_9 H locs gq up_10 hP hD hS => ?_)
            have g6 : ws_9[6]? = some (t1, .inl (cB, 50000, .inl (upd (cpB lf fp (bf nm) at_ i) (((bf nm) + (at_ + i)) - at_) ((fp (at_ + i)).toInt8.toInt32)))) := gq
            have g5 := up_10.get g5 (by decide)
            have g7 := up_10.get g7 (by decide)
            have g8 := up_10.get g8 (by decide)
            have g9 := up_10.get g9 (by decide)
            have g3 := up_10.get g3 (by decide)
            have sm := sm.up up_10 (by simp)
            refine lv_iinc (v := (nI ((at_ + i) + 1))) (lv' := [(6, .int (nI ((at_ + i) + 1))), (0, .ref t0), (1, .ref tx), (2, .int (nI at_)), (3, .int (nI to_)), (4, .int (nI ((haS TX + st_) % 16384))), (5, .int (nI (bf nm)))]) hx hb dX6_enter_59 hl (k := 6) rfl (nx_inc _ 1) (by decide) rfl (fun ls hl => ?_)
            refine lv_goto (tgt := 37) hx hb dX6_enter_62 (by decide) ?_
            have g6 : ws_9[6]? = some (t1, .inl (cB, 50000, .inl (cpB lf fp (bf nm) at_ (i + 1)))) := by rw [← cpB_s (v := (fp (at_ + i)).toInt8.toInt32) (by rw [hTx i (by omega)]; exact hTb _ (List.getElem_mem _))]; rw [show bf nm + (at_ + i) - at_ = bf nm + i by omega] at g6; exact g6
            exact ih_37 (i + 1) (by omega) (by omega) _ _ _ _ sm g5 g6 g7 g8 g9 g3 hP hD hS (lv_sub hl [1, 2, 3, 4, 5, 6, 0] rfl)
      have g6 : ws[6]? = some (t1, .inl (cB, 50000, .inl (cpB lf fp (bf nm) at_ 0))) := by rw [cpB_0]; exact g6
      exact lp_37 _ 0 (Nat.lt_succ_self _) (Nat.zero_le _) _ _ _ _ sm g5 g6 g7 g8 g9 g3 hP hD hS (lv_sub hl [2, 3, 4, 5, 6, 1, 0] rfl)
    · refine lv_iconst (v := -1) hx hb dX6_enter_32 (by decide) ?_
      have hcm := cma_no (F := []) hid (by omega)
      have g5 : ws[5]? = some (t0, .inr (7, [.ref t1, .ref t2, .ref t3, .ref t4, .int (nI ((cmA sh TX).length))])) := by rw [hcm.2.1, hsn]; exact g5
      exact CI.ret (v := (-1)) C hK hP hD hS rfl (⟨lf, bf, sf, se, (by rw [numR, hcm.1]; rfl), (by rw [hcm.2.1]; exact hst), sm, g5, g6, g7, g8, g9⟩) hc0 hs0 dX6_enter_33
