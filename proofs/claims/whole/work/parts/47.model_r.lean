set_option maxHeartbeats 4000000 in
set_option maxRecDepth 100000 in
theorem c_X9_all {D : va_G} {cB cI cJ cO : ClassId} {l : Launch} {m0 b1 b2 b5 b6 b7 b12 b14 b15 b16 b20 b21 b22 b23 b24 b26 b31 th len ps nm bt_ so wi fm dn ca sta xn bb rr pp qq : Nat} {fp lf : Nat → Int32} {ff zf fr : Nat → Nat} {sh : List (List Int32)} {P : List Int32} {ws : va_W} (g33 : ws[33]? = some (m0, .inr (10, [.int (nI th), .ref b1, .ref b2, .int (nI len), .int (nI ps), .ref b5, .ref b6, .ref b7, .int (nI nm), .int (nI bt_), .int (nI so), .int (nI wi), .ref b12, .int (nI fm), .ref b14, .ref b15, .ref b16, .int (nI dn), .int (nI ca), .int (nI sta), .ref b20, .ref b21, .ref b22, .ref b23, .ref b24, .int (nI xn), .ref b26, .int (nI bb), .int (nI rr), .int (nI pp), .int (nI qq), .ref b31]))) (g35 : ws[35]? = some (b2, .inl (cB, 801, .inl fp))) (g36 : ws[36]? = some (b5, .inl (cB, 50800, .inl lf))) (g37 : ws[37]? = some (b6, .inl (cI, 6800, .inl (fun jj => nI (ff jj))))) (g38 : ws[38]? = some (b7, .inl (cI, 6800, .inl (fun jj => nI (zf jj))))) (g39 : ws[39]? = some (b12, .inl (cI, 801, .inl (fun jj => nI (fr jj))))) (hst : StM sh lf ff zf) (hsn : sh.length = nm) (hbt : sh.flatten.length = bt_) (hn6 : nm ≤ 6000) (hb5 : bt_ ≤ 50000) (hPf : Hd fp P) (hPl : P.length = ps) (hP8 : ps ≤ 800) (hPb : ∀ x ∈ P, x.toInt8.toInt32 = x) (hPe : LastOK P) (hw1 : 1 ≤ wi) (hw9 : wi ≤ 9) (hs1 : so ≤ 1) : CI D (TY cB cI cJ cO) l yX9_all wsX9_all ({ frames := 2, cells := 0, slots := 0, locals := 50 }) [.ref m0] ws (fun r ws' => ∃ lf2 : Nat → Int32, ∃ ff2 : Nat → Nat, ∃ zf2 : Nat → Nat, ∃ fr2 : Nat → Nat, r = nI ((runA sh (spanL so wi P)).2.2.toNat) ∧ (StM (runA sh (spanL so wi P)).1 lf2 ff2 zf2) ∧ (HdN fr2 (runA sh (spanL so wi P)).2.1) ∧ (AOk (runA sh (spanL so wi P)).1 (runA sh (spanL so wi P)).2.1 800) ∧ Sm (fun k => k = 33 ∨ k = 36 ∨ k = 37 ∨ k = 38 ∨ k = 39) ws ws' ∧ ws'[33]? = some (m0, .inr (10, [.int (nI th), .ref b1, .ref b2, .int (nI len), .int (nI ps), .ref b5, .ref b6, .ref b7, .int (nI ((runA sh (spanL so wi P)).1.length)), .int (nI ((runA sh (spanL so wi P)).1.flatten.length)), .int (nI so), .int (nI wi), .ref b12, .int (nI ((runA sh (spanL so wi P)).2.1.length)), .ref b14, .ref b15, .ref b16, .int (nI dn), .int (nI ca), .int (nI sta), .ref b20, .ref b21, .ref b22, .ref b23, .ref b24, .int (nI xn), .ref b26, .int (nI bb), .int (nI rr), .int (nI pp), .int (nI qq), .ref b31])) ∧ ws'[36]? = some (b5, .inl (cB, 50800, .inl lf2)) ∧ ws'[37]? = some (b6, .inl (cI, 6800, .inl (fun jj => nI (ff2 jj)))) ∧ ws'[38]? = some (b7, .inl (cI, 6800, .inl (fun jj => nI (zf2 jj)))) ∧ ws'[39]? = some (b12, .inl (cI, 801, .inl (fun jj => nI (fr2 jj))))) := by
  refine CI.of (cc := cX9_all) (maxL := 4) (ret := (some .boolean)) (by decide) rfl (Nat.le_of_ble_eq_true rfl) ?_
  intro p e s m below meth c A C hK hP hD hA hS ls hl
  obtain ⟨hx, hb, hr, hml, hts, hown, hlocks, hnm⟩ := id C
  have fl_18 := hts (.fieldLink RX9 18 "TwinFinderModel" "plainSize" "I") (by decide +kernel)
  have fl_21 := hts (.fieldLink RX9 21 "TwinFinderModel" "plain" "[B") (by decide +kernel)
  have fl_45 := hts (.fieldLink RX9 45 "TwinFinderModel" "freshMany" "I") (by decide +kernel)
  have fl_51 := hts (.fieldLink RX9 51 "TwinFinderModel" "sort" "I") (by decide +kernel)
  have fl_54 := hts (.fieldLink RX9 54 "TwinFinderModel" "wide" "I") (by decide +kernel)
  have hin_X9 : ∀ w ∈ u_ws RX9 TX9 32, w ∈ wsX9_all := by decide +kernel
  have hl : lv_has ls 4 [(0, .ref m0)] := hl
  have sm : Sm (fun k => k = 33 ∨ k = 36 ∨ k = 37 ∨ k = 38 ∨ k = 39) ws ws := Sm.rf
  have hc0 : (0 : Nat) ≤ 0 := by decide
  have hs0 : (0 : Nat) ≤ 0 := by decide
  refine lv_aload_n hx hb dX9_all_0 rfl (lv_at hl 0 rfl) ?_
  refine lv_iconst (v := nI 0) hx hb dX9_all_1 (by decide) ?_
  refine nx_put (D := D) (ci := 10) (v := .int (nI 0)) (ty := .int) (C := RX9) (T := TX9) (N := 32) hx hb hts hin_X9 tyX9 tyX9_ok nmX9 hown hK hP hD hS 33 g33 rfl 13 (by decide) fl_45 (fun _ h9 => h9) rfl (by decide +kernel) rfl rfl (Nat.le_of_ble_eq_true rfl) dX9_all_2 (fun ws_1 H locs gq up_2 hP hD hS => ?_)
  have g33 : ws_1[33]? = some (m0, .inr (10, [.int (nI th), .ref b1, .ref b2, .int (nI len), .int (nI ps), .ref b5, .ref b6, .ref b7, .int (nI nm), .int (nI bt_), .int (nI so), .int (nI wi), .ref b12, .int (nI 0), .ref b14, .ref b15, .ref b16, .int (nI dn), .int (nI ca), .int (nI sta), .ref b20, .ref b21, .ref b22, .ref b23, .ref b24, .int (nI xn), .ref b26, .int (nI bb), .int (nI rr), .int (nI pp), .int (nI qq), .ref b31])) := gq
  have g35 := up_2.get g35 (by decide)
  have g36 := up_2.get g36 (by decide)
  have g37 := up_2.get g37 (by decide)
  have g38 := up_2.get g38 (by decide)
  have g39 := up_2.get g39 (by decide)
  have sm := sm.up up_2 (by simp)
  have haok0 : AOk sh [] 0 := ⟨by omega, by omega, Nat.le_refl _, fun i j hi => absurd hi (Nat.not_lt_zero i), fun x hx => absurd hx (by simp)⟩
  have hwl2 := wcnt_le hPe
  refine lv_aload_n hx hb dX9_all_5 rfl (lv_at hl 0 rfl) ?_
  refine va_get (D := D) (ci := 10) (v := .int (nI so)) (C := RX9) (T := TX9) (N := 32) hx hb hts hin_X9 hown hK hP 33 g33 rfl 10 (by decide) fl_51 (fun _ h9 => h9) rfl dX9_all_6 ?_
  refine nx_if_ne (tgt := 49) hx hb (by omega) dX9_all_9 (by decide) (fun c_9 => ?_) (fun c_9 => ?_)
  · have hso : 0 < so := by omega
    have g33 : ws_1[33]? = some (m0, .inr (10, [.int (nI th), .ref b1, .ref b2, .int (nI len), .int (nI ps), .ref b5, .ref b6, .ref b7, .int (nI (sh.length)), .int (nI (sh.flatten.length)), .int (nI so), .int (nI wi), .ref b12, .int (nI (([] : List Nat).length)), .ref b14, .ref b15, .ref b16, .int (nI dn), .int (nI ca), .int (nI sta), .ref b20, .ref b21, .ref b22, .ref b23, .ref b24, .int (nI xn), .ref b26, .int (nI bb), .int (nI rr), .int (nI pp), .int (nI qq), .ref b31])) := by rw [hsn, hbt]; exact g33
    refine lv_iconst (v := nI 0) hx hb dX9_all_49 (by decide) ?_
    refine lv_istore_n (lv' := [(1, .int (nI 0)), (0, .ref m0)]) hx hb dX9_all_50 rfl hl (by decide) rfl (fun ls hl => ?_)
    have lp_51 : ∀ (fuel : Nat) (i : Nat) (sh1 : List (List Int32)) (F1 : List Nat) (lf1 : Nat → Int32) (ff1 zf1 fr1 : Nat → Nat), wcnt P - i < fuel → (i ≤ wcnt P) → (runA sh ((spanL so wi P).take i) = (sh1, F1, true)) → (StM sh1 lf1 ff1 zf1) → (HdN fr1 F1) → (AOk sh1 F1 i) → ∀ (ws1 : va_W) (H : Heap) (locs : List Loc) (ls : Array Slot), Sm (fun k => k = 33 ∨ k = 36 ∨ k = 37 ∨ k = 38 ∨ k = 39) ws ws1 → ws1[33]? = some (m0, .inr (10, [.int (nI th), .ref b1, .ref b2, .int (nI len), .int (nI ps), .ref b5, .ref b6, .ref b7, .int (nI (sh1.length)), .int (nI (sh1.flatten.length)), .int (nI so), .int (nI wi), .ref b12, .int (nI (F1.length)), .ref b14, .ref b15, .ref b16, .int (nI dn), .int (nI ca), .int (nI sta), .ref b20, .ref b21, .ref b22, .ref b23, .ref b24, .int (nI xn), .ref b26, .int (nI bb), .int (nI rr), .int (nI pp), .int (nI qq), .ref b31])) → ws1[35]? = some (b2, .inl (cB, 801, .inl fp)) → ws1[36]? = some (b5, .inl (cB, 50800, .inl lf1)) → ws1[37]? = some (b6, .inl (cI, 6800, .inl (fun jj => nI (ff1 jj)))) → ws1[38]? = some (b7, .inl (cI, 6800, .inl (fun jj => nI (zf1 jj)))) → ws1[39]? = some (b12, .inl (cI, 801, .inl (fun jj => nI (fr1 jj)))) → va_P D vwCl ws1 H → va_D A ws1 → va_S A s.heap H locs → lv_has ls 4 [(0, .ref m0), (1, .int (nI (wst P i)))] → W p l e ({ frames := 2, cells := 0, slots := 0, locals := 50 }) s m ([.ref m0] : List Value).toArray below meth c H locs 0 0 (ZI D (TY cB cI cJ cO) (fun r ws' => ∃ lf2 : Nat → Int32, ∃ ff2 : Nat → Nat, ∃ zf2 : Nat → Nat, ∃ fr2 : Nat → Nat, r = nI ((runA sh (spanL so wi P)).2.2.toNat) ∧ (StM (runA sh (spanL so wi P)).1 lf2 ff2 zf2) ∧ (HdN fr2 (runA sh (spanL so wi P)).2.1) ∧ (AOk (runA sh (spanL so wi P)).1 (runA sh (spanL so wi P)).2.1 800) ∧ Sm (fun k => k = 33 ∨ k = 36 ∨ k = 37 ∨ k = 38 ∨ k = 39) ws ws' ∧ ws'[33]? = some (m0, .inr (10, [.int (nI th), .ref b1, .ref b2, .int (nI len), .int (nI ps), .ref b5, .ref b6, .ref b7, .int (nI ((runA sh (spanL so wi P)).1.length)), .int (nI ((runA sh (spanL so wi P)).1.flatten.length)), .int (nI so), .int (nI wi), .ref b12, .int (nI ((runA sh (spanL so wi P)).2.1.length)), .ref b14, .ref b15, .ref b16, .int (nI dn), .int (nI ca), .int (nI sta), .ref b20, .ref b21, .ref b22, .ref b23, .ref b24, .int (nI xn), .ref b26, .int (nI bb), .int (nI rr), .int (nI pp), .int (nI qq), .ref b31])) ∧ ws'[36]? = some (b5, .inl (cB, 50800, .inl lf2)) ∧ ws'[37]? = some (b6, .inl (cI, 6800, .inl (fun jj => nI (ff2 jj)))) ∧ ws'[38]? = some (b7, .inl (cI, 6800, .inl (fun jj => nI (zf2 jj)))) ∧ ws'[39]? = some (b12, .inl (cI, 801, .inl (fun jj => nI (fr2 jj))))) below [.ref m0] s 0 0 A) (F0 m 51 ls []) := by
      intro fuel
      induction fuel with
      | zero => intro i sh1 F1 lf1 ff1 zf1 fr1 hfu; exact absurd hfu (Nat.not_lt_zero _)
      | succ fuel ih_51 =>
        intro i sh1 F1 lf1 ff1 zf1 fr1 hfu_51 hi hrun hst1 hfr1 haok ws1 H locs ls sm g33 g35 g36 g37 g38 g39 hP hD hS hl
        refine lv_iload_n hx hb dX9_all_51 rfl (lv_at hl 1 rfl) ?_
        refine lv_aload_n hx hb dX9_all_52 rfl (lv_at hl 0 rfl) ?_
        refine va_get (D := D) (ci := 10) (v := .int (nI ps)) (C := RX9) (T := TX9) (N := 32) hx hb hts hin_X9 hown hK hP 33 g33 rfl 4 (by decide) fl_18 (fun _ h9 => h9) rfl dX9_all_53 ?_
        refine nx_icmp_ge (tgt := 171) hx hb (by have := wst_bnd9 hPe hi; omega) (by omega) dX9_all_56 (by decide) (fun c_56 => ?_) (fun c_56 => ?_)
        · refine lv_iconst (v := nI 1) hx hb dX9_all_171 (by decide) ?_
          have hfin : runA sh (spanL so wi P) = (sh1, F1, true) := runA_end hrun (by rw [span1_len hso]; have := (wst_out hPe (j := i) (by omega)).1; omega)
          have g33 : ws1[33]? = some (m0, .inr (10, [.int (nI th), .ref b1, .ref b2, .int (nI len), .int (nI ps), .ref b5, .ref b6, .ref b7, .int (nI ((runA sh (spanL so wi P)).1.length)), .int (nI ((runA sh (spanL so wi P)).1.flatten.length)), .int (nI so), .int (nI wi), .ref b12, .int (nI ((runA sh (spanL so wi P)).2.1.length)), .ref b14, .ref b15, .ref b16, .int (nI dn), .int (nI ca), .int (nI sta), .ref b20, .ref b21, .ref b22, .ref b23, .ref b24, .int (nI xn), .ref b26, .int (nI bb), .int (nI rr), .int (nI pp), .int (nI qq), .ref b31])) := by rw [hfin]; exact g33
          exact CI.ret (v := (nI 1)) C hK hP hD hS (by decide) (⟨_, _, _, _, (by rw [hfin]; rfl), (by rw [hfin]; exact hst1), (by rw [hfin]; exact hfr1), (by rw [hfin]; exact haok.mono (by omega)), sm, g33, g36, g37, g38, g39⟩) hc0 hs0 dX9_all_172
        · have hic := wst_in (P := P) (j := i) (by omega)
          have hP0 : 0 < P.length := by omega
          refine lv_iload_n hx hb dX9_all_59 rfl (lv_at hl 1 rfl) ?_
          refine lv_istore_n (lv' := [(2, .int (nI (wst P i))), (0, .ref m0), (1, .int (nI (wst P i)))]) hx hb dX9_all_60 rfl hl (by decide) rfl (fun ls hl => ?_)
          refine lv_iconst (v := nI 0) hx hb dX9_all_61 (by decide) ?_
          refine lv_istore_n (lv' := [(3, .int (nI 0)), (2, .int (nI (wst P i))), (0, .ref m0), (1, .int (nI (wst P i)))]) hx hb dX9_all_62 rfl hl (by decide) rfl (fun ls hl => ?_)
          have lp_63 : ∀ (fuel : Nat) (e_ v : Nat), wi - v < fuel → (v ≤ wi ∧ i + v ≤ wcnt P) → (EV P i v e_) → (e_ ≤ 801) → ∀ (ws1 : va_W) (H : Heap) (locs : List Loc) (ls : Array Slot), Sm (fun k => k = 33 ∨ k = 36 ∨ k = 37 ∨ k = 38 ∨ k = 39) ws ws1 → ws1[33]? = some (m0, .inr (10, [.int (nI th), .ref b1, .ref b2, .int (nI len), .int (nI ps), .ref b5, .ref b6, .ref b7, .int (nI (sh1.length)), .int (nI (sh1.flatten.length)), .int (nI so), .int (nI wi), .ref b12, .int (nI (F1.length)), .ref b14, .ref b15, .ref b16, .int (nI dn), .int (nI ca), .int (nI sta), .ref b20, .ref b21, .ref b22, .ref b23, .ref b24, .int (nI xn), .ref b26, .int (nI bb), .int (nI rr), .int (nI pp), .int (nI qq), .ref b31])) → ws1[35]? = some (b2, .inl (cB, 801, .inl fp)) → ws1[36]? = some (b5, .inl (cB, 50800, .inl lf1)) → ws1[37]? = some (b6, .inl (cI, 6800, .inl (fun jj => nI (ff1 jj)))) → ws1[38]? = some (b7, .inl (cI, 6800, .inl (fun jj => nI (zf1 jj)))) → ws1[39]? = some (b12, .inl (cI, 801, .inl (fun jj => nI (fr1 jj)))) → va_P D vwCl ws1 H → va_D A ws1 → va_S A s.heap H locs → lv_has ls 4 [(0, .ref m0), (1, .int (nI (wst P i))), (2, .int (nI e_)), (3, .int (nI v))] → W p l e ({ frames := 2, cells := 0, slots := 0, locals := 50 }) s m ([.ref m0] : List Value).toArray below meth c H locs 0 0 (ZI D (TY cB cI cJ cO) (fun r ws' => ∃ lf2 : Nat → Int32, ∃ ff2 : Nat → Nat, ∃ zf2 : Nat → Nat, ∃ fr2 : Nat → Nat, r = nI ((runA sh (spanL so wi P)).2.2.toNat) ∧ (StM (runA sh (spanL so wi P)).1 lf2 ff2 zf2) ∧ (HdN fr2 (runA sh (spanL so wi P)).2.1) ∧ (AOk (runA sh (spanL so wi P)).1 (runA sh (spanL so wi P)).2.1 800) ∧ Sm (fun k => k = 33 ∨ k = 36 ∨ k = 37 ∨ k = 38 ∨ k = 39) ws ws' ∧ ws'[33]? = some (m0, .inr (10, [.int (nI th), .ref b1, .ref b2, .int (nI len), .int (nI ps), .ref b5, .ref b6, .ref b7, .int (nI ((runA sh (spanL so wi P)).1.length)), .int (nI ((runA sh (spanL so wi P)).1.flatten.length)), .int (nI so), .int (nI wi), .ref b12, .int (nI ((runA sh (spanL so wi P)).2.1.length)), .ref b14, .ref b15, .ref b16, .int (nI dn), .int (nI ca), .int (nI sta), .ref b20, .ref b21, .ref b22, .ref b23, .ref b24, .int (nI xn), .ref b26, .int (nI bb), .int (nI rr), .int (nI pp), .int (nI qq), .ref b31])) ∧ ws'[36]? = some (b5, .inl (cB, 50800, .inl lf2)) ∧ ws'[37]? = some (b6, .inl (cI, 6800, .inl (fun jj => nI (ff2 jj)))) ∧ ws'[38]? = some (b7, .inl (cI, 6800, .inl (fun jj => nI (zf2 jj)))) ∧ ws'[39]? = some (b12, .inl (cI, 801, .inl (fun jj => nI (fr2 jj))))) below [.ref m0] s 0 0 A) (F0 m 63 ls []) := by
            intro fuel
            induction fuel with
            | zero => intro e_ v hfu; exact absurd hfu (Nat.not_lt_zero _)
            | succ fuel ih_63 =>
              intro e_ v hfu_63 hv he he9 ws1 H locs ls sm g33 g35 g36 g37 g38 g39 hP hD hS hl
              refine lv_iload_n hx hb dX9_all_63 rfl (lv_at hl 2 rfl) ?_
              refine lv_aload_n hx hb dX9_all_64 rfl (lv_at hl 0 rfl) ?_
              refine va_get (D := D) (ci := 10) (v := .int (nI ps)) (C := RX9) (T := TX9) (N := 32) hx hb hts hin_X9 hown hK hP 33 g33 rfl 4 (by decide) fl_18 (fun _ h9 => h9) rfl dX9_all_65 ?_
              refine nx_icmp_ge (tgt := 117) hx hb (by omega) (by omega) dX9_all_68 (by decide) (fun c_68 => ?_) (fun c_68 => ?_)
              · refine lv_iload_n hx hb dX9_all_117 rfl (lv_at hl 3 rfl) ?_
                refine lv_aload_n hx hb dX9_all_118 rfl (lv_at hl 0 rfl) ?_
                refine va_get (D := D) (ci := 10) (v := .int (nI wi)) (C := RX9) (T := TX9) (N := 32) hx hb hts hin_X9 hown hK hP 33 g33 rfl 11 (by decide) fl_54 (fun _ h9 => h9) rfl dX9_all_119 ?_
                refine nx_icmp_ge (tgt := 127) hx hb (by omega) (by omega) dX9_all_122 (by decide) (fun c_122 => ?_) (fun c_122 => ?_)
                · have he3 := he.at1 (by omega)
                  rw [show v = wi by omega] at he3
                  have hb3 := wst_bound hPe hP0 (j := i + wi) (by omega)
                  have hm3 := wst_mono3 (P := P) (i := i) (j := i + wi) (by omega)
                  have hil : i < (spanL so wi P).length := by rw [span1_len hso]; omega
                  refine lv_aload_n hx hb dX9_all_127 rfl (lv_at hl 0 rfl) ?_
                  refine lv_iload_n hx hb dX9_all_128 rfl (lv_at hl 1 rfl) ?_
                  refine lv_iload_n hx hb dX9_all_129 rfl (lv_at hl 2 rfl) ?_
                  refine lv_iload_n hx hb dX9_all_130 rfl (lv_at hl 1 rfl) ?_
                  refine nx_isub hx hb (by omega) dX9_all_131 ?_
                  obtain ⟨TX, hTXe⟩ : ∃ X, X = (spanL so wi P)[i] := ⟨_, rfl⟩
                  have hTX : TX = slL P (wst P i) (wst P (i + wi) - 1) := by rw [hTXe]; exact span1_get hso _
                  have hTXl : TX.length = e_ - wst P i := by rw [hTX, slL_len (by omega)]; omega
                  have hTXx : ∀ t (ht : t < TX.length), fp (wst P i + t) = TX[t] := fun t ht => by subst hTX; rw [slL_get (by omega), hPf.at]
                  refine CI.go (va_runV (As := [.int (nI (wst P i)), .int (nI (e_ - (wst P i)))]) (rest := []) ⟨hx, hb, hml, hown, hts⟩ (c_X9_comes (TX := TX) g33 g35 g36 g37 g38 g39 hst1 rfl haok.1 haok.2.1 hTXl hTXx (by omega) rfl (fun x hx => hPb x (by rw [hTX] at hx; exact List.mem_of_mem_drop (List.mem_of_mem_take hx))) hfr1 rfl (by have := haok.2.2.1; omega) haok.2.2.2.1 haok.2.2.2.2 _) (cwV 2 hts gX9_all_X9_comes rfl rfl rfl (by decide +kernel) ⟨Nat.le_of_ble_eq_true rfl, Nat.le_of_ble_eq_true rfl⟩) ⟨pw_blind, va_recv hK hP (ci := 10) (q0 := 33) rfl g33, fun U hU hW => pw_pre hK hP hD hU hW⟩ rfl rfl hl.1 rfl (lv_room (Nat.le_of_ble_eq_true rfl)) dX9_all_132 ⟨by decide, by decide⟩) hD hS hA (fun r_3 ws_4 H locs hp hP hD hS => ?_)
                  obtain ⟨lf2, ff2, zf2, fr2, rfl, hst2, hfr2, sm_5, g33, g36, g37, g38, g39⟩ := hp
                  have g35 := sm_5.get g35 (by simp)
                  have sm := sm.call sm_5 (by intro k hk; (try simp only at hk ⊢); omega)
                  have g33 : ws_4[33]? = some (m0, .inr (10, [.int (nI th), .ref b1, .ref b2, .int (nI len), .int (nI ps), .ref b5, .ref b6, .ref b7, .int (nI ((cmA sh1 TX).length)), .int (nI ((cmA sh1 TX).flatten.length)), .int (nI so), .int (nI wi), .ref b12, .int (nI ((frA sh1 F1 TX).length)), .ref b14, .ref b15, .ref b16, .int (nI dn), .int (nI ca), .int (nI sta), .ref b20, .ref b21, .ref b22, .ref b23, .ref b24, .int (nI xn), .ref b26, .int (nI bb), .int (nI rr), .int (nI pp), .int (nI qq), .ref b31])) := g33
                  have g36 : ws_4[36]? = some (b5, .inl (cB, 50800, .inl lf2)) := g36
                  have g37 : ws_4[37]? = some (b6, .inl (cI, 6800, .inl (fun jj => nI (ff2 jj)))) := g37
                  have g38 : ws_4[38]? = some (b7, .inl (cI, 6800, .inl (fun jj => nI (zf2 jj)))) := g38
                  have g39 : ws_4[39]? = some (b12, .inl (cI, 801, .inl (fun jj => nI (fr2 jj)))) := g39
                  refine nx_if_ne (tgt := 140) hx hb (by exact bn2 _) dX9_all_135 (by decide) (fun c_135 => ?_) (fun c_135 => ?_)
                  · have lp_140 : ∀ (fuel : Nat) (g : Nat), ps - g < fuel → (wst P i ≤ g ∧ g ≤ nxB P (wst P i)) → ∀ (ws1 : va_W) (H : Heap) (locs : List Loc) (ls : Array Slot), Sm (fun k => k = 33 ∨ k = 36 ∨ k = 37 ∨ k = 38 ∨ k = 39) ws ws1 → ws1[33]? = some (m0, .inr (10, [.int (nI th), .ref b1, .ref b2, .int (nI len), .int (nI ps), .ref b5, .ref b6, .ref b7, .int (nI ((cmA sh1 TX).length)), .int (nI ((cmA sh1 TX).flatten.length)), .int (nI so), .int (nI wi), .ref b12, .int (nI ((frA sh1 F1 TX).length)), .ref b14, .ref b15, .ref b16, .int (nI dn), .int (nI ca), .int (nI sta), .ref b20, .ref b21, .ref b22, .ref b23, .ref b24, .int (nI xn), .ref b26, .int (nI bb), .int (nI rr), .int (nI pp), .int (nI qq), .ref b31])) → ws1[35]? = some (b2, .inl (cB, 801, .inl fp)) → ws1[36]? = some (b5, .inl (cB, 50800, .inl lf2)) → ws1[37]? = some (b6, .inl (cI, 6800, .inl (fun jj => nI (ff2 jj)))) → ws1[38]? = some (b7, .inl (cI, 6800, .inl (fun jj => nI (zf2 jj)))) → ws1[39]? = some (b12, .inl (cI, 801, .inl (fun jj => nI (fr2 jj)))) → va_P D vwCl ws1 H → va_D A ws1 → va_S A s.heap H locs → lv_has ls 4 [(0, .ref m0), (1, .int (nI g))] → W p l e ({ frames := 2, cells := 0, slots := 0, locals := 50 }) s m ([.ref m0] : List Value).toArray below meth c H locs 0 0 (ZI D (TY cB cI cJ cO) (fun r ws' => ∃ lf2 : Nat → Int32, ∃ ff2 : Nat → Nat, ∃ zf2 : Nat → Nat, ∃ fr2 : Nat → Nat, r = nI ((runA sh (spanL so wi P)).2.2.toNat) ∧ (StM (runA sh (spanL so wi P)).1 lf2 ff2 zf2) ∧ (HdN fr2 (runA sh (spanL so wi P)).2.1) ∧ (AOk (runA sh (spanL so wi P)).1 (runA sh (spanL so wi P)).2.1 800) ∧ Sm (fun k => k = 33 ∨ k = 36 ∨ k = 37 ∨ k = 38 ∨ k = 39) ws ws' ∧ ws'[33]? = some (m0, .inr (10, [.int (nI th), .ref b1, .ref b2, .int (nI len), .int (nI ps), .ref b5, .ref b6, .ref b7, .int (nI ((runA sh (spanL so wi P)).1.length)), .int (nI ((runA sh (spanL so wi P)).1.flatten.length)), .int (nI so), .int (nI wi), .ref b12, .int (nI ((runA sh (spanL so wi P)).2.1.length)), .ref b14, .ref b15, .ref b16, .int (nI dn), .int (nI ca), .int (nI sta), .ref b20, .ref b21, .ref b22, .ref b23, .ref b24, .int (nI xn), .ref b26, .int (nI bb), .int (nI rr), .int (nI pp), .int (nI qq), .ref b31])) ∧ ws'[36]? = some (b5, .inl (cB, 50800, .inl lf2)) ∧ ws'[37]? = some (b6, .inl (cI, 6800, .inl (fun jj => nI (ff2 jj)))) ∧ ws'[38]? = some (b7, .inl (cI, 6800, .inl (fun jj => nI (zf2 jj)))) ∧ ws'[39]? = some (b12, .inl (cI, 801, .inl (fun jj => nI (fr2 jj))))) below [.ref m0] s 0 0 A) (F0 m 140 ls []) := by
                      intro fuel
                      induction fuel with
                      | zero => intro g hfu; exact absurd hfu (Nat.not_lt_zero _)
                      | succ fuel ih_140 =>
                        intro g hfu_140 hg ws1 H locs ls sm g33 g35 g36 g37 g38 g39 hP hD hS hl
                        have hnb1 := nxB_le (P := P) (a := wst P i) (by omega)
                        refine lv_iload_n hx hb dX9_all_140 rfl (lv_at hl 1 rfl) ?_
                        refine lv_aload_n hx hb dX9_all_141 rfl (lv_at hl 0 rfl) ?_
                        refine va_get (D := D) (ci := 10) (v := .int (nI ps)) (C := RX9) (T := TX9) (N := 32) hx hb hts hin_X9 hown hK hP 33 g33 rfl 4 (by decide) fl_18 (fun _ h9 => h9) rfl dX9_all_142 ?_
                        refine nx_icmp_ge (tgt := 165) hx hb (by omega) (by omega) dX9_all_145 (by decide) (fun c_145 => ?_) (fun c_145 => ?_)
                        · refine lv_iinc (v := (nI (g + 1))) (lv' := [(1, .int (nI (g + 1))), (0, .ref m0)]) hx hb dX9_all_165 hl (k := 1) rfl (nx_inc _ 1) (by decide) rfl (fun ls hl => ?_)
                          refine lv_goto (tgt := 51) hx hb dX9_all_168 (by decide) ?_
                          have hl : lv_has ls 4 [(1, .int (nI (wst P (i + 1)))), (0, .ref m0)] := by rw [← show g + 1 = wst P (i + 1) from (show g + 1 = nxB P (wst P i) + 1 from by rw [← nxB_of hg.1 hg.2 (by first | exact Or.inl (by omega) | exact Or.inr ⟨by omega, by rw [← hPf.at (by omega)]; exact c_156⟩) (by omega)])]; exact hl
                          exact ih_51 (i + 1) _ _ _ _ _ _ (by omega) (by omega) (by rw [runA_step hil hTXe hrun, bool1 c_135]) hst2 hfr2 haok.step _ _ _ _ sm g33 g35 g36 g37 g38 g39 hP hD hS (lv_sub hl [1, 0] rfl)
                        · refine lv_aload_n hx hb dX9_all_148 rfl (lv_at hl 0 rfl) ?_
                          refine va_get (D := D) (ci := 10) (v := .ref b2) (C := RX9) (T := TX9) (N := 32) hx hb hts hin_X9 hown hK hP 33 g33 rfl 2 (by decide) fl_21 (fun _ h9 => h9) rfl dX9_all_149 ?_
                          refine lv_iload_n hx hb dX9_all_152 rfl (lv_at hl 1 rfl) ?_
                          refine nx_bald hx hb hK hP 35 0 g35 rfl (k := g) (by omega) (by decide) dX9_all_153 ?_
                          refine lv_bipush (v := nI 32) hx hb dX9_all_154 (by decide) ?_
                          refine lv_icmp_eq (tgt := 165) hx hb dX9_all_156 (by decide) (fun c_156 => ?_) (fun c_156 => ?_)
                          · refine lv_iinc (v := (nI (g + 1))) (lv' := [(1, .int (nI (g + 1))), (0, .ref m0)]) hx hb dX9_all_165 hl (k := 1) rfl (nx_inc _ 1) (by decide) rfl (fun ls hl => ?_)
                            refine lv_goto (tgt := 51) hx hb dX9_all_168 (by decide) ?_
                            have hl : lv_has ls 4 [(1, .int (nI (wst P (i + 1)))), (0, .ref m0)] := by rw [← show g + 1 = wst P (i + 1) from (show g + 1 = nxB P (wst P i) + 1 from by rw [← nxB_of hg.1 hg.2 (by first | exact Or.inl (by omega) | exact Or.inr ⟨by omega, by rw [← hPf.at (by omega)]; exact c_156⟩) (by omega)])]; exact hl
                            exact ih_51 (i + 1) _ _ _ _ _ _ (by omega) (by omega) (by rw [runA_step hil hTXe hrun, bool1 c_135]) hst2 hfr2 haok.step _ _ _ _ sm g33 g35 g36 g37 g38 g39 hP hD hS (lv_sub hl [1, 0] rfl)
                          · refine lv_iinc (v := (nI (g + 1))) (lv' := [(1, .int (nI (g + 1))), (0, .ref m0)]) hx hb dX9_all_159 hl (k := 1) rfl (nx_inc _ 1) (by decide) rfl (fun ls hl => ?_)
                            refine lv_goto (tgt := 140) hx hb dX9_all_162 (by decide) ?_
                            exact ih_140 (g + 1) (by omega) ⟨by omega, nxB_step hg.2 (by omega) (by rw [← hPf.at (by omega)]; exact c_156)⟩ _ _ _ _ sm g33 g35 g36 g37 g38 g39 hP hD hS (lv_sub hl [1, 0] rfl)
                    exact lp_140 _ (wst P i) (Nat.lt_succ_self _) ⟨Nat.le_refl _, (nxB_le (P := P) (a := wst P i) (by omega)).1⟩ _ _ _ _ sm g33 g35 g36 g37 g38 g39 hP hD hS (lv_sub hl [0, 1] rfl)
                  · refine lv_iconst (v := nI 0) hx hb dX9_all_138 (by decide) ?_
                    have hfin : runA sh (spanL so wi P) = (cmA sh1 TX, frA sh1 F1 TX, cmOk sh1 TX) := runA_fail (i := i + 1) (runA_step hil hTXe hrun) (bool0 c_135)
                    have g33 : ws_4[33]? = some (m0, .inr (10, [.int (nI th), .ref b1, .ref b2, .int (nI len), .int (nI ps), .ref b5, .ref b6, .ref b7, .int (nI ((runA sh (spanL so wi P)).1.length)), .int (nI ((runA sh (spanL so wi P)).1.flatten.length)), .int (nI so), .int (nI wi), .ref b12, .int (nI ((runA sh (spanL so wi P)).2.1.length)), .ref b14, .ref b15, .ref b16, .int (nI dn), .int (nI ca), .int (nI sta), .ref b20, .ref b21, .ref b22, .ref b23, .ref b24, .int (nI xn), .ref b26, .int (nI bb), .int (nI rr), .int (nI pp), .int (nI qq), .ref b31])) := by rw [hfin]; exact g33
                    exact CI.ret (v := (nI 0)) C hK hP hD hS (by decide) (⟨_, _, _, _, (by rw [hfin]; show nI 0 = nI (cmOk sh1 TX).toNat; first | (rw [bool0 c_36]; rfl) | (rw [bool0 c_135]; rfl)), (by rw [hfin]; exact hst2), (by rw [hfin]; exact hfr2), (by rw [hfin]; exact haok.step.mono (by omega)), sm, g33, g36, g37, g38, g39⟩) hc0 hs0 dX9_all_139
                · refine lv_iconst (v := nI 1) hx hb dX9_all_125 (by decide) ?_
                  have hfin : runA sh (spanL so wi P) = (sh1, F1, true) := runA_end hrun (by rw [span1_len hso]; have := EV.full hPe he (by omega) (by omega); omega)
                  have g33 : ws1[33]? = some (m0, .inr (10, [.int (nI th), .ref b1, .ref b2, .int (nI len), .int (nI ps), .ref b5, .ref b6, .ref b7, .int (nI ((runA sh (spanL so wi P)).1.length)), .int (nI ((runA sh (spanL so wi P)).1.flatten.length)), .int (nI so), .int (nI wi), .ref b12, .int (nI ((runA sh (spanL so wi P)).2.1.length)), .ref b14, .ref b15, .ref b16, .int (nI dn), .int (nI ca), .int (nI sta), .ref b20, .ref b21, .ref b22, .ref b23, .ref b24, .int (nI xn), .ref b26, .int (nI bb), .int (nI rr), .int (nI pp), .int (nI qq), .ref b31])) := by rw [hfin]; exact g33
                  exact CI.ret (v := (nI 1)) C hK hP hD hS (by decide) (⟨_, _, _, _, (by rw [hfin]; rfl), (by rw [hfin]; exact hst1), (by rw [hfin]; exact hfr1), (by rw [hfin]; exact haok.mono (by omega)), sm, g33, g36, g37, g38, g39⟩) hc0 hs0 dX9_all_126
              · refine lv_iload_n hx hb dX9_all_71 rfl (lv_at hl 3 rfl) ?_
                refine lv_aload_n hx hb dX9_all_72 rfl (lv_at hl 0 rfl) ?_
                refine va_get (D := D) (ci := 10) (v := .int (nI wi)) (C := RX9) (T := TX9) (N := 32) hx hb hts hin_X9 hown hK hP 33 g33 rfl 11 (by decide) fl_54 (fun _ h9 => h9) rfl dX9_all_73 ?_
                refine nx_icmp_ge (tgt := 117) hx hb (by omega) (by omega) dX9_all_76 (by decide) (fun c_76 => ?_) (fun c_76 => ?_)
                · refine lv_iload_n hx hb dX9_all_117 rfl (lv_at hl 3 rfl) ?_
                  refine lv_aload_n hx hb dX9_all_118 rfl (lv_at hl 0 rfl) ?_
                  refine va_get (D := D) (ci := 10) (v := .int (nI wi)) (C := RX9) (T := TX9) (N := 32) hx hb hts hin_X9 hown hK hP 33 g33 rfl 11 (by decide) fl_54 (fun _ h9 => h9) rfl dX9_all_119 ?_
                  refine nx_icmp_ge (tgt := 127) hx hb (by omega) (by omega) dX9_all_122 (by decide) (fun c_122 => ?_) (fun c_122 => ?_)
                  · have he3 := he.at1 (by omega)
                    rw [show v = wi by omega] at he3
                    have hb3 := wst_bound hPe hP0 (j := i + wi) (by omega)
                    have hm3 := wst_mono3 (P := P) (i := i) (j := i + wi) (by omega)
                    have hil : i < (spanL so wi P).length := by rw [span1_len hso]; omega
                    refine lv_aload_n hx hb dX9_all_127 rfl (lv_at hl 0 rfl) ?_
                    refine lv_iload_n hx hb dX9_all_128 rfl (lv_at hl 1 rfl) ?_
                    refine lv_iload_n hx hb dX9_all_129 rfl (lv_at hl 2 rfl) ?_
                    refine lv_iload_n hx hb dX9_all_130 rfl (lv_at hl 1 rfl) ?_
                    refine nx_isub hx hb (by omega) dX9_all_131 ?_
                    obtain ⟨TX, hTXe⟩ : ∃ X, X = (spanL so wi P)[i] := ⟨_, rfl⟩
                    have hTX : TX = slL P (wst P i) (wst P (i + wi) - 1) := by rw [hTXe]; exact span1_get hso _
                    have hTXl : TX.length = e_ - wst P i := by rw [hTX, slL_len (by omega)]; omega
                    have hTXx : ∀ t (ht : t < TX.length), fp (wst P i + t) = TX[t] := fun t ht => by subst hTX; rw [slL_get (by omega), hPf.at]
                    refine CI.go (va_runV (As := [.int (nI (wst P i)), .int (nI (e_ - (wst P i)))]) (rest := []) ⟨hx, hb, hml, hown, hts⟩ (c_X9_comes (TX := TX) g33 g35 g36 g37 g38 g39 hst1 rfl haok.1 haok.2.1 hTXl hTXx (by omega) rfl (fun x hx => hPb x (by rw [hTX] at hx; exact List.mem_of_mem_drop (List.mem_of_mem_take hx))) hfr1 rfl (by have := haok.2.2.1; omega) haok.2.2.2.1 haok.2.2.2.2 _) (cwV 2 hts gX9_all_X9_comes rfl rfl rfl (by decide +kernel) ⟨Nat.le_of_ble_eq_true rfl, Nat.le_of_ble_eq_true rfl⟩) ⟨pw_blind, va_recv hK hP (ci := 10) (q0 := 33) rfl g33, fun U hU hW => pw_pre hK hP hD hU hW⟩ rfl rfl hl.1 rfl (lv_room (Nat.le_of_ble_eq_true rfl)) dX9_all_132 ⟨by decide, by decide⟩) hD hS hA (fun r_6 ws_7 H locs hp hP hD hS => ?_)
                    obtain ⟨lf2, ff2, zf2, fr2, rfl, hst2, hfr2, sm_8, g33, g36, g37, g38, g39⟩ := hp
                    have g35 := sm_8.get g35 (by simp)
                    have sm := sm.call sm_8 (by intro k hk; (try simp only at hk ⊢); omega)
                    have g33 : ws_7[33]? = some (m0, .inr (10, [.int (nI th), .ref b1, .ref b2, .int (nI len), .int (nI ps), .ref b5, .ref b6, .ref b7, .int (nI ((cmA sh1 TX).length)), .int (nI ((cmA sh1 TX).flatten.length)), .int (nI so), .int (nI wi), .ref b12, .int (nI ((frA sh1 F1 TX).length)), .ref b14, .ref b15, .ref b16, .int (nI dn), .int (nI ca), .int (nI sta), .ref b20, .ref b21, .ref b22, .ref b23, .ref b24, .int (nI xn), .ref b26, .int (nI bb), .int (nI rr), .int (nI pp), .int (nI qq), .ref b31])) := g33
                    have g36 : ws_7[36]? = some (b5, .inl (cB, 50800, .inl lf2)) := g36
                    have g37 : ws_7[37]? = some (b6, .inl (cI, 6800, .inl (fun jj => nI (ff2 jj)))) := g37
                    have g38 : ws_7[38]? = some (b7, .inl (cI, 6800, .inl (fun jj => nI (zf2 jj)))) := g38
                    have g39 : ws_7[39]? = some (b12, .inl (cI, 801, .inl (fun jj => nI (fr2 jj)))) := g39
                    refine nx_if_ne (tgt := 140) hx hb (by exact bn2 _) dX9_all_135 (by decide) (fun c_135 => ?_) (fun c_135 => ?_)
                    · have lp_140 : ∀ (fuel : Nat) (g : Nat), ps - g < fuel → (wst P i ≤ g ∧ g ≤ nxB P (wst P i)) → ∀ (ws1 : va_W) (H : Heap) (locs : List Loc) (ls : Array Slot), Sm (fun k => k = 33 ∨ k = 36 ∨ k = 37 ∨ k = 38 ∨ k = 39) ws ws1 → ws1[33]? = some (m0, .inr (10, [.int (nI th), .ref b1, .ref b2, .int (nI len), .int (nI ps), .ref b5, .ref b6, .ref b7, .int (nI ((cmA sh1 TX).length)), .int (nI ((cmA sh1 TX).flatten.length)), .int (nI so), .int (nI wi), .ref b12, .int (nI ((frA sh1 F1 TX).length)), .ref b14, .ref b15, .ref b16, .int (nI dn), .int (nI ca), .int (nI sta), .ref b20, .ref b21, .ref b22, .ref b23, .ref b24, .int (nI xn), .ref b26, .int (nI bb), .int (nI rr), .int (nI pp), .int (nI qq), .ref b31])) → ws1[35]? = some (b2, .inl (cB, 801, .inl fp)) → ws1[36]? = some (b5, .inl (cB, 50800, .inl lf2)) → ws1[37]? = some (b6, .inl (cI, 6800, .inl (fun jj => nI (ff2 jj)))) → ws1[38]? = some (b7, .inl (cI, 6800, .inl (fun jj => nI (zf2 jj)))) → ws1[39]? = some (b12, .inl (cI, 801, .inl (fun jj => nI (fr2 jj)))) → va_P D vwCl ws1 H → va_D A ws1 → va_S A s.heap H locs → lv_has ls 4 [(0, .ref m0), (1, .int (nI g))] → W p l e ({ frames := 2, cells := 0, slots := 0, locals := 50 }) s m ([.ref m0] : List Value).toArray below meth c H locs 0 0 (ZI D (TY cB cI cJ cO) (fun r ws' => ∃ lf2 : Nat → Int32, ∃ ff2 : Nat → Nat, ∃ zf2 : Nat → Nat, ∃ fr2 : Nat → Nat, r = nI ((runA sh (spanL so wi P)).2.2.toNat) ∧ (StM (runA sh (spanL so wi P)).1 lf2 ff2 zf2) ∧ (HdN fr2 (runA sh (spanL so wi P)).2.1) ∧ (AOk (runA sh (spanL so wi P)).1 (runA sh (spanL so wi P)).2.1 800) ∧ Sm (fun k => k = 33 ∨ k = 36 ∨ k = 37 ∨ k = 38 ∨ k = 39) ws ws' ∧ ws'[33]? = some (m0, .inr (10, [.int (nI th), .ref b1, .ref b2, .int (nI len), .int (nI ps), .ref b5, .ref b6, .ref b7, .int (nI ((runA sh (spanL so wi P)).1.length)), .int (nI ((runA sh (spanL so wi P)).1.flatten.length)), .int (nI so), .int (nI wi), .ref b12, .int (nI ((runA sh (spanL so wi P)).2.1.length)), .ref b14, .ref b15, .ref b16, .int (nI dn), .int (nI ca), .int (nI sta), .ref b20, .ref b21, .ref b22, .ref b23, .ref b24, .int (nI xn), .ref b26, .int (nI bb), .int (nI rr), .int (nI pp), .int (nI qq), .ref b31])) ∧ ws'[36]? = some (b5, .inl (cB, 50800, .inl lf2)) ∧ ws'[37]? = some (b6, .inl (cI, 6800, .inl (fun jj => nI (ff2 jj)))) ∧ ws'[38]? = some (b7, .inl (cI, 6800, .inl (fun jj => nI (zf2 jj)))) ∧ ws'[39]? = some (b12, .inl (cI, 801, .inl (fun jj => nI (fr2 jj))))) below [.ref m0] s 0 0 A) (F0 m 140 ls []) := by
                        intro fuel
                        induction fuel with
                        | zero => intro g hfu; exact absurd hfu (Nat.not_lt_zero _)
                        | succ fuel ih_140 =>
                          intro g hfu_140 hg ws1 H locs ls sm g33 g35 g36 g37 g38 g39 hP hD hS hl
                          have hnb1 := nxB_le (P := P) (a := wst P i) (by omega)
                          refine lv_iload_n hx hb dX9_all_140 rfl (lv_at hl 1 rfl) ?_
                          refine lv_aload_n hx hb dX9_all_141 rfl (lv_at hl 0 rfl) ?_
                          refine va_get (D := D) (ci := 10) (v := .int (nI ps)) (C := RX9) (T := TX9) (N := 32) hx hb hts hin_X9 hown hK hP 33 g33 rfl 4 (by decide) fl_18 (fun _ h9 => h9) rfl dX9_all_142 ?_
                          refine nx_icmp_ge (tgt := 165) hx hb (by omega) (by omega) dX9_all_145 (by decide) (fun c_145 => ?_) (fun c_145 => ?_)
                          · refine lv_iinc (v := (nI (g + 1))) (lv' := [(1, .int (nI (g + 1))), (0, .ref m0)]) hx hb dX9_all_165 hl (k := 1) rfl (nx_inc _ 1) (by decide) rfl (fun ls hl => ?_)
                            refine lv_goto (tgt := 51) hx hb dX9_all_168 (by decide) ?_
                            have hl : lv_has ls 4 [(1, .int (nI (wst P (i + 1)))), (0, .ref m0)] := by rw [← show g + 1 = wst P (i + 1) from (show g + 1 = nxB P (wst P i) + 1 from by rw [← nxB_of hg.1 hg.2 (by first | exact Or.inl (by omega) | exact Or.inr ⟨by omega, by rw [← hPf.at (by omega)]; exact c_156⟩) (by omega)])]; exact hl
                            exact ih_51 (i + 1) _ _ _ _ _ _ (by omega) (by omega) (by rw [runA_step hil hTXe hrun, bool1 c_135]) hst2 hfr2 haok.step _ _ _ _ sm g33 g35 g36 g37 g38 g39 hP hD hS (lv_sub hl [1, 0] rfl)
                          · refine lv_aload_n hx hb dX9_all_148 rfl (lv_at hl 0 rfl) ?_
                            refine va_get (D := D) (ci := 10) (v := .ref b2) (C := RX9) (T := TX9) (N := 32) hx hb hts hin_X9 hown hK hP 33 g33 rfl 2 (by decide) fl_21 (fun _ h9 => h9) rfl dX9_all_149 ?_
                            refine lv_iload_n hx hb dX9_all_152 rfl (lv_at hl 1 rfl) ?_
                            refine nx_bald hx hb hK hP 35 0 g35 rfl (k := g) (by omega) (by decide) dX9_all_153 ?_
                            refine lv_bipush (v := nI 32) hx hb dX9_all_154 (by decide) ?_
                            refine lv_icmp_eq (tgt := 165) hx hb dX9_all_156 (by decide) (fun c_156 => ?_) (fun c_156 => ?_)
                            · refine lv_iinc (v := (nI (g + 1))) (lv' := [(1, .int (nI (g + 1))), (0, .ref m0)]) hx hb dX9_all_165 hl (k := 1) rfl (nx_inc _ 1) (by decide) rfl (fun ls hl => ?_)
                              refine lv_goto (tgt := 51) hx hb dX9_all_168 (by decide) ?_
                              have hl : lv_has ls 4 [(1, .int (nI (wst P (i + 1)))), (0, .ref m0)] := by rw [← show g + 1 = wst P (i + 1) from (show g + 1 = nxB P (wst P i) + 1 from by rw [← nxB_of hg.1 hg.2 (by first | exact Or.inl (by omega) | exact Or.inr ⟨by omega, by rw [← hPf.at (by omega)]; exact c_156⟩) (by omega)])]; exact hl
                              exact ih_51 (i + 1) _ _ _ _ _ _ (by omega) (by omega) (by rw [runA_step hil hTXe hrun, bool1 c_135]) hst2 hfr2 haok.step _ _ _ _ sm g33 g35 g36 g37 g38 g39 hP hD hS (lv_sub hl [1, 0] rfl)
                            · refine lv_iinc (v := (nI (g + 1))) (lv' := [(1, .int (nI (g + 1))), (0, .ref m0)]) hx hb dX9_all_159 hl (k := 1) rfl (nx_inc _ 1) (by decide) rfl (fun ls hl => ?_)
                              refine lv_goto (tgt := 140) hx hb dX9_all_162 (by decide) ?_
                              exact ih_140 (g + 1) (by omega) ⟨by omega, nxB_step hg.2 (by omega) (by rw [← hPf.at (by omega)]; exact c_156)⟩ _ _ _ _ sm g33 g35 g36 g37 g38 g39 hP hD hS (lv_sub hl [1, 0] rfl)
                      exact lp_140 _ (wst P i) (Nat.lt_succ_self _) ⟨Nat.le_refl _, (nxB_le (P := P) (a := wst P i) (by omega)).1⟩ _ _ _ _ sm g33 g35 g36 g37 g38 g39 hP hD hS (lv_sub hl [0, 1] rfl)
                    · refine lv_iconst (v := nI 0) hx hb dX9_all_138 (by decide) ?_
                      have hfin : runA sh (spanL so wi P) = (cmA sh1 TX, frA sh1 F1 TX, cmOk sh1 TX) := runA_fail (i := i + 1) (runA_step hil hTXe hrun) (bool0 c_135)
                      have g33 : ws_7[33]? = some (m0, .inr (10, [.int (nI th), .ref b1, .ref b2, .int (nI len), .int (nI ps), .ref b5, .ref b6, .ref b7, .int (nI ((runA sh (spanL so wi P)).1.length)), .int (nI ((runA sh (spanL so wi P)).1.flatten.length)), .int (nI so), .int (nI wi), .ref b12, .int (nI ((runA sh (spanL so wi P)).2.1.length)), .ref b14, .ref b15, .ref b16, .int (nI dn), .int (nI ca), .int (nI sta), .ref b20, .ref b21, .ref b22, .ref b23, .ref b24, .int (nI xn), .ref b26, .int (nI bb), .int (nI rr), .int (nI pp), .int (nI qq), .ref b31])) := by rw [hfin]; exact g33
                      exact CI.ret (v := (nI 0)) C hK hP hD hS (by decide) (⟨_, _, _, _, (by rw [hfin]; show nI 0 = nI (cmOk sh1 TX).toNat; first | (rw [bool0 c_36]; rfl) | (rw [bool0 c_135]; rfl)), (by rw [hfin]; exact hst2), (by rw [hfin]; exact hfr2), (by rw [hfin]; exact haok.step.mono (by omega)), sm, g33, g36, g37, g38, g39⟩) hc0 hs0 dX9_all_139
                  · omega
                · have hwl := he.le (by omega)
                  have hnb := nxB_le hwl
                  refine lv_iload_n hx hb dX9_all_79 rfl (lv_at hl 3 rfl) ?_
                  refine nx_if_le (tgt := 86) hx hb (by omega) dX9_all_80 (by decide) (fun c_80 => ?_) (fun c_80 => ?_)
                  · have lp_86 : ∀ (fuel : Nat) (g : Nat), ps - g < fuel → (wst P (i + v) ≤ g ∧ g ≤ nxB P (wst P (i + v))) → ∀ (ws1 : va_W) (H : Heap) (locs : List Loc) (ls : Array Slot), Sm (fun k => k = 33 ∨ k = 36 ∨ k = 37 ∨ k = 38 ∨ k = 39) ws ws1 → ws1[33]? = some (m0, .inr (10, [.int (nI th), .ref b1, .ref b2, .int (nI len), .int (nI ps), .ref b5, .ref b6, .ref b7, .int (nI (sh1.length)), .int (nI (sh1.flatten.length)), .int (nI so), .int (nI wi), .ref b12, .int (nI (F1.length)), .ref b14, .ref b15, .ref b16, .int (nI dn), .int (nI ca), .int (nI sta), .ref b20, .ref b21, .ref b22, .ref b23, .ref b24, .int (nI xn), .ref b26, .int (nI bb), .int (nI rr), .int (nI pp), .int (nI qq), .ref b31])) → ws1[35]? = some (b2, .inl (cB, 801, .inl fp)) → ws1[36]? = some (b5, .inl (cB, 50800, .inl lf1)) → ws1[37]? = some (b6, .inl (cI, 6800, .inl (fun jj => nI (ff1 jj)))) → ws1[38]? = some (b7, .inl (cI, 6800, .inl (fun jj => nI (zf1 jj)))) → ws1[39]? = some (b12, .inl (cI, 801, .inl (fun jj => nI (fr1 jj)))) → va_P D vwCl ws1 H → va_D A ws1 → va_S A s.heap H locs → lv_has ls 4 [(0, .ref m0), (1, .int (nI (wst P i))), (2, .int (nI g)), (3, .int (nI v))] → W p l e ({ frames := 2, cells := 0, slots := 0, locals := 50 }) s m ([.ref m0] : List Value).toArray below meth c H locs 0 0 (ZI D (TY cB cI cJ cO) (fun r ws' => ∃ lf2 : Nat → Int32, ∃ ff2 : Nat → Nat, ∃ zf2 : Nat → Nat, ∃ fr2 : Nat → Nat, r = nI ((runA sh (spanL so wi P)).2.2.toNat) ∧ (StM (runA sh (spanL so wi P)).1 lf2 ff2 zf2) ∧ (HdN fr2 (runA sh (spanL so wi P)).2.1) ∧ (AOk (runA sh (spanL so wi P)).1 (runA sh (spanL so wi P)).2.1 800) ∧ Sm (fun k => k = 33 ∨ k = 36 ∨ k = 37 ∨ k = 38 ∨ k = 39) ws ws' ∧ ws'[33]? = some (m0, .inr (10, [.int (nI th), .ref b1, .ref b2, .int (nI len), .int (nI ps), .ref b5, .ref b6, .ref b7, .int (nI ((runA sh (spanL so wi P)).1.length)), .int (nI ((runA sh (spanL so wi P)).1.flatten.length)), .int (nI so), .int (nI wi), .ref b12, .int (nI ((runA sh (spanL so wi P)).2.1.length)), .ref b14, .ref b15, .ref b16, .int (nI dn), .int (nI ca), .int (nI sta), .ref b20, .ref b21, .ref b22, .ref b23, .ref b24, .int (nI xn), .ref b26, .int (nI bb), .int (nI rr), .int (nI pp), .int (nI qq), .ref b31])) ∧ ws'[36]? = some (b5, .inl (cB, 50800, .inl lf2)) ∧ ws'[37]? = some (b6, .inl (cI, 6800, .inl (fun jj => nI (ff2 jj)))) ∧ ws'[38]? = some (b7, .inl (cI, 6800, .inl (fun jj => nI (zf2 jj)))) ∧ ws'[39]? = some (b12, .inl (cI, 801, .inl (fun jj => nI (fr2 jj))))) below [.ref m0] s 0 0 A) (F0 m 86 ls []) := by
                      intro fuel
                      induction fuel with
                      | zero => intro g hfu; exact absurd hfu (Nat.not_lt_zero _)
                      | succ fuel ih_86 =>
                        intro g hfu_86 hg ws1 H locs ls sm g33 g35 g36 g37 g38 g39 hP hD hS hl
                        refine lv_iload_n hx hb dX9_all_86 rfl (lv_at hl 2 rfl) ?_
                        refine lv_aload_n hx hb dX9_all_87 rfl (lv_at hl 0 rfl) ?_
                        refine va_get (D := D) (ci := 10) (v := .int (nI ps)) (C := RX9) (T := TX9) (N := 32) hx hb hts hin_X9 hown hK hP 33 g33 rfl 4 (by decide) fl_18 (fun _ h9 => h9) rfl dX9_all_88 ?_
                        refine nx_icmp_ge (tgt := 111) hx hb (by omega) (by omega) dX9_all_91 (by decide) (fun c_91 => ?_) (fun c_91 => ?_)
                        · refine lv_iinc (v := (nI (v + 1))) (lv' := [(3, .int (nI (v + 1))), (0, .ref m0), (1, .int (nI (wst P i))), (2, .int (nI g))]) hx hb dX9_all_111 hl (k := 3) rfl (nx_inc _ 1) (by decide) rfl (fun ls hl => ?_)
                          refine lv_goto (tgt := 63) hx hb dX9_all_114 (by decide) ?_
                          have hgn := nxB_of hg.1 hg.2 (by first | exact Or.inl (by omega) | exact Or.inr ⟨by omega, by rw [← hPf.at (by omega)]; exact c_102⟩) hwl
                          have hwv := wst_le hPe hv.2 hwl hP0
                          exact ih_63 g (v + 1) (by omega) ⟨by omega, by omega⟩ (EV.next hgn) (by omega) _ _ _ _ sm g33 g35 g36 g37 g38 g39 hP hD hS (lv_sub hl [1, 2, 3, 0] rfl)
                        · refine lv_aload_n hx hb dX9_all_94 rfl (lv_at hl 0 rfl) ?_
                          refine va_get (D := D) (ci := 10) (v := .ref b2) (C := RX9) (T := TX9) (N := 32) hx hb hts hin_X9 hown hK hP 33 g33 rfl 2 (by decide) fl_21 (fun _ h9 => h9) rfl dX9_all_95 ?_
                          refine lv_iload_n hx hb dX9_all_98 rfl (lv_at hl 2 rfl) ?_
                          refine nx_bald hx hb hK hP 35 0 g35 rfl (k := g) (by omega) (by decide) dX9_all_99 ?_
                          refine lv_bipush (v := nI 32) hx hb dX9_all_100 (by decide) ?_
                          refine lv_icmp_eq (tgt := 111) hx hb dX9_all_102 (by decide) (fun c_102 => ?_) (fun c_102 => ?_)
                          · refine lv_iinc (v := (nI (v + 1))) (lv' := [(3, .int (nI (v + 1))), (0, .ref m0), (1, .int (nI (wst P i))), (2, .int (nI g))]) hx hb dX9_all_111 hl (k := 3) rfl (nx_inc _ 1) (by decide) rfl (fun ls hl => ?_)
                            refine lv_goto (tgt := 63) hx hb dX9_all_114 (by decide) ?_
                            have hgn := nxB_of hg.1 hg.2 (by first | exact Or.inl (by omega) | exact Or.inr ⟨by omega, by rw [← hPf.at (by omega)]; exact c_102⟩) hwl
                            have hwv := wst_le hPe hv.2 hwl hP0
                            exact ih_63 g (v + 1) (by omega) ⟨by omega, by omega⟩ (EV.next hgn) (by omega) _ _ _ _ sm g33 g35 g36 g37 g38 g39 hP hD hS (lv_sub hl [1, 2, 3, 0] rfl)
                          · refine lv_iinc (v := (nI (g + 1))) (lv' := [(2, .int (nI (g + 1))), (0, .ref m0), (1, .int (nI (wst P i))), (3, .int (nI v))]) hx hb dX9_all_105 hl (k := 2) rfl (nx_inc _ 1) (by decide) rfl (fun ls hl => ?_)
                            refine lv_goto (tgt := 86) hx hb dX9_all_108 (by decide) ?_
                            exact ih_86 (g + 1) (by omega) ⟨by omega, nxB_step hg.2 (by omega) (by rw [← hPf.at (by omega)]; exact c_102)⟩ _ _ _ _ sm g33 g35 g36 g37 g38 g39 hP hD hS (lv_sub hl [1, 2, 0, 3] rfl)
                    have hl : lv_has ls 4 [(0, .ref m0), (1, .int (nI (wst P i))), (2, .int (nI (wst P (i + v)))), (3, .int (nI v))] := by rw [← show e_ = wst P (i + v) from (he.at0 (by omega))]; exact hl
                    exact lp_86 _ (wst P (i + v)) (Nat.lt_succ_self _) ⟨Nat.le_refl _, hnb.1⟩ _ _ _ _ sm g33 g35 g36 g37 g38 g39 hP hD hS (lv_sub hl [0, 1, 2, 3] rfl)
                  · refine lv_iinc (v := (nI (e_ + 1))) (lv' := [(2, .int (nI (e_ + 1))), (0, .ref m0), (1, .int (nI (wst P i))), (3, .int (nI v))]) hx hb dX9_all_83 hl (k := 2) rfl (nx_inc _ 1) (by decide) rfl (fun ls hl => ?_)
                    have lp_86 : ∀ (fuel : Nat) (g : Nat), ps - g < fuel → (wst P (i + v) ≤ g ∧ g ≤ nxB P (wst P (i + v))) → ∀ (ws1 : va_W) (H : Heap) (locs : List Loc) (ls : Array Slot), Sm (fun k => k = 33 ∨ k = 36 ∨ k = 37 ∨ k = 38 ∨ k = 39) ws ws1 → ws1[33]? = some (m0, .inr (10, [.int (nI th), .ref b1, .ref b2, .int (nI len), .int (nI ps), .ref b5, .ref b6, .ref b7, .int (nI (sh1.length)), .int (nI (sh1.flatten.length)), .int (nI so), .int (nI wi), .ref b12, .int (nI (F1.length)), .ref b14, .ref b15, .ref b16, .int (nI dn), .int (nI ca), .int (nI sta), .ref b20, .ref b21, .ref b22, .ref b23, .ref b24, .int (nI xn), .ref b26, .int (nI bb), .int (nI rr), .int (nI pp), .int (nI qq), .ref b31])) → ws1[35]? = some (b2, .inl (cB, 801, .inl fp)) → ws1[36]? = some (b5, .inl (cB, 50800, .inl lf1)) → ws1[37]? = some (b6, .inl (cI, 6800, .inl (fun jj => nI (ff1 jj)))) → ws1[38]? = some (b7, .inl (cI, 6800, .inl (fun jj => nI (zf1 jj)))) → ws1[39]? = some (b12, .inl (cI, 801, .inl (fun jj => nI (fr1 jj)))) → va_P D vwCl ws1 H → va_D A ws1 → va_S A s.heap H locs → lv_has ls 4 [(0, .ref m0), (1, .int (nI (wst P i))), (2, .int (nI g)), (3, .int (nI v))] → W p l e ({ frames := 2, cells := 0, slots := 0, locals := 50 }) s m ([.ref m0] : List Value).toArray below meth c H locs 0 0 (ZI D (TY cB cI cJ cO) (fun r ws' => ∃ lf2 : Nat → Int32, ∃ ff2 : Nat → Nat, ∃ zf2 : Nat → Nat, ∃ fr2 : Nat → Nat, r = nI ((runA sh (spanL so wi P)).2.2.toNat) ∧ (StM (runA sh (spanL so wi P)).1 lf2 ff2 zf2) ∧ (HdN fr2 (runA sh (spanL so wi P)).2.1) ∧ (AOk (runA sh (spanL so wi P)).1 (runA sh (spanL so wi P)).2.1 800) ∧ Sm (fun k => k = 33 ∨ k = 36 ∨ k = 37 ∨ k = 38 ∨ k = 39) ws ws' ∧ ws'[33]? = some (m0, .inr (10, [.int (nI th), .ref b1, .ref b2, .int (nI len), .int (nI ps), .ref b5, .ref b6, .ref b7, .int (nI ((runA sh (spanL so wi P)).1.length)), .int (nI ((runA sh (spanL so wi P)).1.flatten.length)), .int (nI so), .int (nI wi), .ref b12, .int (nI ((runA sh (spanL so wi P)).2.1.length)), .ref b14, .ref b15, .ref b16, .int (nI dn), .int (nI ca), .int (nI sta), .ref b20, .ref b21, .ref b22, .ref b23, .ref b24, .int (nI xn), .ref b26, .int (nI bb), .int (nI rr), .int (nI pp), .int (nI qq), .ref b31])) ∧ ws'[36]? = some (b5, .inl (cB, 50800, .inl lf2)) ∧ ws'[37]? = some (b6, .inl (cI, 6800, .inl (fun jj => nI (ff2 jj)))) ∧ ws'[38]? = some (b7, .inl (cI, 6800, .inl (fun jj => nI (zf2 jj)))) ∧ ws'[39]? = some (b12, .inl (cI, 801, .inl (fun jj => nI (fr2 jj))))) below [.ref m0] s 0 0 A) (F0 m 86 ls []) := by
                      intro fuel
                      induction fuel with
                      | zero => intro g hfu; exact absurd hfu (Nat.not_lt_zero _)
                      | succ fuel ih_86 =>
                        intro g hfu_86 hg ws1 H locs ls sm g33 g35 g36 g37 g38 g39 hP hD hS hl
                        refine lv_iload_n hx hb dX9_all_86 rfl (lv_at hl 2 rfl) ?_
                        refine lv_aload_n hx hb dX9_all_87 rfl (lv_at hl 0 rfl) ?_
                        refine va_get (D := D) (ci := 10) (v := .int (nI ps)) (C := RX9) (T := TX9) (N := 32) hx hb hts hin_X9 hown hK hP 33 g33 rfl 4 (by decide) fl_18 (fun _ h9 => h9) rfl dX9_all_88 ?_
                        refine nx_icmp_ge (tgt := 111) hx hb (by omega) (by omega) dX9_all_91 (by decide) (fun c_91 => ?_) (fun c_91 => ?_)
                        · refine lv_iinc (v := (nI (v + 1))) (lv' := [(3, .int (nI (v + 1))), (0, .ref m0), (1, .int (nI (wst P i))), (2, .int (nI g))]) hx hb dX9_all_111 hl (k := 3) rfl (nx_inc _ 1) (by decide) rfl (fun ls hl => ?_)
                          refine lv_goto (tgt := 63) hx hb dX9_all_114 (by decide) ?_
                          have hgn := nxB_of hg.1 hg.2 (by first | exact Or.inl (by omega) | exact Or.inr ⟨by omega, by rw [← hPf.at (by omega)]; exact c_102⟩) hwl
                          have hwv := wst_le hPe hv.2 hwl hP0
                          exact ih_63 g (v + 1) (by omega) ⟨by omega, by omega⟩ (EV.next hgn) (by omega) _ _ _ _ sm g33 g35 g36 g37 g38 g39 hP hD hS (lv_sub hl [1, 2, 3, 0] rfl)
                        · refine lv_aload_n hx hb dX9_all_94 rfl (lv_at hl 0 rfl) ?_
                          refine va_get (D := D) (ci := 10) (v := .ref b2) (C := RX9) (T := TX9) (N := 32) hx hb hts hin_X9 hown hK hP 33 g33 rfl 2 (by decide) fl_21 (fun _ h9 => h9) rfl dX9_all_95 ?_
                          refine lv_iload_n hx hb dX9_all_98 rfl (lv_at hl 2 rfl) ?_
                          refine nx_bald hx hb hK hP 35 0 g35 rfl (k := g) (by omega) (by decide) dX9_all_99 ?_
                          refine lv_bipush (v := nI 32) hx hb dX9_all_100 (by decide) ?_
                          refine lv_icmp_eq (tgt := 111) hx hb dX9_all_102 (by decide) (fun c_102 => ?_) (fun c_102 => ?_)
                          · refine lv_iinc (v := (nI (v + 1))) (lv' := [(3, .int (nI (v + 1))), (0, .ref m0), (1, .int (nI (wst P i))), (2, .int (nI g))]) hx hb dX9_all_111 hl (k := 3) rfl (nx_inc _ 1) (by decide) rfl (fun ls hl => ?_)
                            refine lv_goto (tgt := 63) hx hb dX9_all_114 (by decide) ?_
                            have hgn := nxB_of hg.1 hg.2 (by first | exact Or.inl (by omega) | exact Or.inr ⟨by omega, by rw [← hPf.at (by omega)]; exact c_102⟩) hwl
                            have hwv := wst_le hPe hv.2 hwl hP0
                            exact ih_63 g (v + 1) (by omega) ⟨by omega, by omega⟩ (EV.next hgn) (by omega) _ _ _ _ sm g33 g35 g36 g37 g38 g39 hP hD hS (lv_sub hl [1, 2, 3, 0] rfl)
                          · refine lv_iinc (v := (nI (g + 1))) (lv' := [(2, .int (nI (g + 1))), (0, .ref m0), (1, .int (nI (wst P i))), (3, .int (nI v))]) hx hb dX9_all_105 hl (k := 2) rfl (nx_inc _ 1) (by decide) rfl (fun ls hl => ?_)
                            refine lv_goto (tgt := 86) hx hb dX9_all_108 (by decide) ?_
                            exact ih_86 (g + 1) (by omega) ⟨by omega, nxB_step hg.2 (by omega) (by rw [← hPf.at (by omega)]; exact c_102)⟩ _ _ _ _ sm g33 g35 g36 g37 g38 g39 hP hD hS (lv_sub hl [1, 2, 0, 3] rfl)
                    have hl : lv_has ls 4 [(2, .int (nI (wst P (i + v)))), (0, .ref m0), (1, .int (nI (wst P i))), (3, .int (nI v))] := by rw [← show e_ + 1 = wst P (i + v) from (he.at1 (by omega))]; exact hl
                    exact lp_86 _ (wst P (i + v)) (Nat.lt_succ_self _) ⟨Nat.le_refl _, hnb.1⟩ _ _ _ _ sm g33 g35 g36 g37 g38 g39 hP hD hS (lv_sub hl [1, 2, 0, 3] rfl)
          exact lp_63 _ (wst P i) 0 (Nat.lt_succ_self _) ⟨Nat.zero_le _, hi⟩ (Or.inl ⟨rfl, rfl⟩) (by omega) _ _ _ _ sm g33 g35 g36 g37 g38 g39 hP hD hS (lv_sub hl [2, 3, 1, 0] rfl)
    exact lp_51 _ 0 sh [] lf ff zf fr (Nat.lt_succ_self _) (Nat.zero_le _) rfl hst HdN.nil haok0 _ _ _ _ sm g33 g35 g36 g37 g38 g39 hP hD hS (lv_sub hl [1, 0] rfl)
  · have hso : so = 0 := by omega
    have g33 : ws_1[33]? = some (m0, .inr (10, [.int (nI th), .ref b1, .ref b2, .int (nI len), .int (nI ps), .ref b5, .ref b6, .ref b7, .int (nI (sh.length)), .int (nI (sh.flatten.length)), .int (nI so), .int (nI wi), .ref b12, .int (nI (([] : List Nat).length)), .ref b14, .ref b15, .ref b16, .int (nI dn), .int (nI ca), .int (nI sta), .ref b20, .ref b21, .ref b22, .ref b23, .ref b24, .int (nI xn), .ref b26, .int (nI bb), .int (nI rr), .int (nI pp), .int (nI qq), .ref b31])) := by rw [hsn, hbt]; exact g33
    refine lv_iconst (v := nI 0) hx hb dX9_all_12 (by decide) ?_
    refine lv_istore_n (lv' := [(1, .int (nI 0)), (0, .ref m0)]) hx hb dX9_all_13 rfl hl (by decide) rfl (fun ls hl => ?_)
    have lp_14 : ∀ (fuel : Nat) (i : Nat) (sh1 : List (List Int32)) (F1 : List Nat) (lf1 : Nat → Int32) (ff1 zf1 fr1 : Nat → Nat), ps - i < fuel → (i ≤ ps) → (runA sh ((spanL so wi P).take i) = (sh1, F1, true)) → (StM sh1 lf1 ff1 zf1) → (HdN fr1 F1) → (AOk sh1 F1 i) → ∀ (ws1 : va_W) (H : Heap) (locs : List Loc) (ls : Array Slot), Sm (fun k => k = 33 ∨ k = 36 ∨ k = 37 ∨ k = 38 ∨ k = 39) ws ws1 → ws1[33]? = some (m0, .inr (10, [.int (nI th), .ref b1, .ref b2, .int (nI len), .int (nI ps), .ref b5, .ref b6, .ref b7, .int (nI (sh1.length)), .int (nI (sh1.flatten.length)), .int (nI so), .int (nI wi), .ref b12, .int (nI (F1.length)), .ref b14, .ref b15, .ref b16, .int (nI dn), .int (nI ca), .int (nI sta), .ref b20, .ref b21, .ref b22, .ref b23, .ref b24, .int (nI xn), .ref b26, .int (nI bb), .int (nI rr), .int (nI pp), .int (nI qq), .ref b31])) → ws1[35]? = some (b2, .inl (cB, 801, .inl fp)) → ws1[36]? = some (b5, .inl (cB, 50800, .inl lf1)) → ws1[37]? = some (b6, .inl (cI, 6800, .inl (fun jj => nI (ff1 jj)))) → ws1[38]? = some (b7, .inl (cI, 6800, .inl (fun jj => nI (zf1 jj)))) → ws1[39]? = some (b12, .inl (cI, 801, .inl (fun jj => nI (fr1 jj)))) → va_P D vwCl ws1 H → va_D A ws1 → va_S A s.heap H locs → lv_has ls 4 [(0, .ref m0), (1, .int (nI i))] → W p l e ({ frames := 2, cells := 0, slots := 0, locals := 50 }) s m ([.ref m0] : List Value).toArray below meth c H locs 0 0 (ZI D (TY cB cI cJ cO) (fun r ws' => ∃ lf2 : Nat → Int32, ∃ ff2 : Nat → Nat, ∃ zf2 : Nat → Nat, ∃ fr2 : Nat → Nat, r = nI ((runA sh (spanL so wi P)).2.2.toNat) ∧ (StM (runA sh (spanL so wi P)).1 lf2 ff2 zf2) ∧ (HdN fr2 (runA sh (spanL so wi P)).2.1) ∧ (AOk (runA sh (spanL so wi P)).1 (runA sh (spanL so wi P)).2.1 800) ∧ Sm (fun k => k = 33 ∨ k = 36 ∨ k = 37 ∨ k = 38 ∨ k = 39) ws ws' ∧ ws'[33]? = some (m0, .inr (10, [.int (nI th), .ref b1, .ref b2, .int (nI len), .int (nI ps), .ref b5, .ref b6, .ref b7, .int (nI ((runA sh (spanL so wi P)).1.length)), .int (nI ((runA sh (spanL so wi P)).1.flatten.length)), .int (nI so), .int (nI wi), .ref b12, .int (nI ((runA sh (spanL so wi P)).2.1.length)), .ref b14, .ref b15, .ref b16, .int (nI dn), .int (nI ca), .int (nI sta), .ref b20, .ref b21, .ref b22, .ref b23, .ref b24, .int (nI xn), .ref b26, .int (nI bb), .int (nI rr), .int (nI pp), .int (nI qq), .ref b31])) ∧ ws'[36]? = some (b5, .inl (cB, 50800, .inl lf2)) ∧ ws'[37]? = some (b6, .inl (cI, 6800, .inl (fun jj => nI (ff2 jj)))) ∧ ws'[38]? = some (b7, .inl (cI, 6800, .inl (fun jj => nI (zf2 jj)))) ∧ ws'[39]? = some (b12, .inl (cI, 801, .inl (fun jj => nI (fr2 jj))))) below [.ref m0] s 0 0 A) (F0 m 14 ls []) := by
      intro fuel
      induction fuel with
      | zero => intro i sh1 F1 lf1 ff1 zf1 fr1 hfu; exact absurd hfu (Nat.not_lt_zero _)
      | succ fuel ih_14 =>
        intro i sh1 F1 lf1 ff1 zf1 fr1 hfu_14 hi hrun hst1 hfr1 haok ws1 H locs ls sm g33 g35 g36 g37 g38 g39 hP hD hS hl
        refine lv_iload_n hx hb dX9_all_14 rfl (lv_at hl 1 rfl) ?_
        refine lv_aload_n hx hb dX9_all_15 rfl (lv_at hl 0 rfl) ?_
        refine va_get (D := D) (ci := 10) (v := .int (nI wi)) (C := RX9) (T := TX9) (N := 32) hx hb hts hin_X9 hown hK hP 33 g33 rfl 11 (by decide) fl_54 (fun _ h9 => h9) rfl dX9_all_16 ?_
        refine nx_iadd hx hb dX9_all_19 ?_
        refine lv_aload_n hx hb dX9_all_20 rfl (lv_at hl 0 rfl) ?_
        refine va_get (D := D) (ci := 10) (v := .int (nI ps)) (C := RX9) (T := TX9) (N := 32) hx hb hts hin_X9 hown hK hP 33 g33 rfl 4 (by decide) fl_18 (fun _ h9 => h9) rfl dX9_all_21 ?_
        refine nx_icmp_gt (tgt := 47) hx hb (by omega) (by omega) dX9_all_24 (by decide) (fun c_24 => ?_) (fun c_24 => ?_)
        · refine lv_iconst (v := nI 1) hx hb dX9_all_47 (by decide) ?_
          have hfin : runA sh (spanL so wi P) = (sh1, F1, true) := runA_end hrun (by rw [span0_len' hso]; omega)
          have g33 : ws1[33]? = some (m0, .inr (10, [.int (nI th), .ref b1, .ref b2, .int (nI len), .int (nI ps), .ref b5, .ref b6, .ref b7, .int (nI ((runA sh (spanL so wi P)).1.length)), .int (nI ((runA sh (spanL so wi P)).1.flatten.length)), .int (nI so), .int (nI wi), .ref b12, .int (nI ((runA sh (spanL so wi P)).2.1.length)), .ref b14, .ref b15, .ref b16, .int (nI dn), .int (nI ca), .int (nI sta), .ref b20, .ref b21, .ref b22, .ref b23, .ref b24, .int (nI xn), .ref b26, .int (nI bb), .int (nI rr), .int (nI pp), .int (nI qq), .ref b31])) := by rw [hfin]; exact g33
          exact CI.ret (v := (nI 1)) C hK hP hD hS (by decide) (⟨_, _, _, _, (by rw [hfin]; rfl), (by rw [hfin]; exact hst1), (by rw [hfin]; exact hfr1), (by rw [hfin]; exact haok.mono (by omega)), sm, g33, g36, g37, g38, g39⟩) hc0 hs0 dX9_all_48
        · have hil : i < (spanL so wi P).length := by rw [span0_len' hso]; omega
          refine lv_aload_n hx hb dX9_all_27 rfl (lv_at hl 0 rfl) ?_
          refine lv_iload_n hx hb dX9_all_28 rfl (lv_at hl 1 rfl) ?_
          refine lv_aload_n hx hb dX9_all_29 rfl (lv_at hl 0 rfl) ?_
          refine va_get (D := D) (ci := 10) (v := .int (nI wi)) (C := RX9) (T := TX9) (N := 32) hx hb hts hin_X9 hown hK hP 33 g33 rfl 11 (by decide) fl_54 (fun _ h9 => h9) rfl dX9_all_30 ?_
          obtain ⟨TX, hTXe⟩ : ∃ X, X = (spanL so wi P)[i] := ⟨_, rfl⟩
          have hTX : TX = slL P i (i + wi) := by rw [hTXe]; exact span0_get' hso _
          have hTXl : TX.length = wi := by rw [hTX, slL_len (by omega)]; omega
          have hTXx : ∀ t (ht : t < TX.length), fp (i + t) = TX[t] := fun t ht => by subst hTX; rw [slL_get (by omega), hPf.at]
          refine CI.go (va_runV (As := [.int (nI i), .int (nI wi)]) (rest := []) ⟨hx, hb, hml, hown, hts⟩ (c_X9_comes (TX := TX) g33 g35 g36 g37 g38 g39 hst1 rfl haok.1 haok.2.1 hTXl hTXx (by omega) rfl (fun x hx => hPb x (by rw [hTX] at hx; exact List.mem_of_mem_drop (List.mem_of_mem_take hx))) hfr1 rfl (by have := haok.2.2.1; omega) haok.2.2.2.1 haok.2.2.2.2 _) (cwV 2 hts gX9_all_X9_comes rfl rfl rfl (by decide +kernel) ⟨Nat.le_of_ble_eq_true rfl, Nat.le_of_ble_eq_true rfl⟩) ⟨pw_blind, va_recv hK hP (ci := 10) (q0 := 33) rfl g33, fun U hU hW => pw_pre hK hP hD hU hW⟩ rfl rfl hl.1 rfl (lv_room (Nat.le_of_ble_eq_true rfl)) dX9_all_33 ⟨by decide, by decide⟩) hD hS hA (fun r_9 ws_10 H locs hp hP hD hS => ?_)
          obtain ⟨lf2, ff2, zf2, fr2, rfl, hst2, hfr2, sm_11, g33, g36, g37, g38, g39⟩ := hp
          have g35 := sm_11.get g35 (by simp)
          have sm := sm.call sm_11 (by intro k hk; (try simp only at hk ⊢); omega)
          have g33 : ws_10[33]? = some (m0, .inr (10, [.int (nI th), .ref b1, .ref b2, .int (nI len), .int (nI ps), .ref b5, .ref b6, .ref b7, .int (nI ((cmA sh1 TX).length)), .int (nI ((cmA sh1 TX).flatten.length)), .int (nI so), .int (nI wi), .ref b12, .int (nI ((frA sh1 F1 TX).length)), .ref b14, .ref b15, .ref b16, .int (nI dn), .int (nI ca), .int (nI sta), .ref b20, .ref b21, .ref b22, .ref b23, .ref b24, .int (nI xn), .ref b26, .int (nI bb), .int (nI rr), .int (nI pp), .int (nI qq), .ref b31])) := g33
          have g36 : ws_10[36]? = some (b5, .inl (cB, 50800, .inl lf2)) := g36
          have g37 : ws_10[37]? = some (b6, .inl (cI, 6800, .inl (fun jj => nI (ff2 jj)))) := g37
          have g38 : ws_10[38]? = some (b7, .inl (cI, 6800, .inl (fun jj => nI (zf2 jj)))) := g38
          have g39 : ws_10[39]? = some (b12, .inl (cI, 801, .inl (fun jj => nI (fr2 jj)))) := g39
          refine nx_if_ne (tgt := 41) hx hb (by exact bn2 _) dX9_all_36 (by decide) (fun c_36 => ?_) (fun c_36 => ?_)
          · refine lv_iinc (v := (nI (i + 1))) (lv' := [(1, .int (nI (i + 1))), (0, .ref m0)]) hx hb dX9_all_41 hl (k := 1) rfl (nx_inc _ 1) (by decide) rfl (fun ls hl => ?_)
            refine lv_goto (tgt := 14) hx hb dX9_all_44 (by decide) ?_
            exact ih_14 (i + 1) _ _ _ _ _ _ (by omega) (by omega) (by rw [runA_step hil hTXe hrun, bool1 c_36]) hst2 hfr2 haok.step _ _ _ _ sm g33 g35 g36 g37 g38 g39 hP hD hS (lv_sub hl [1, 0] rfl)
          · refine lv_iconst (v := nI 0) hx hb dX9_all_39 (by decide) ?_
            have hfin : runA sh (spanL so wi P) = (cmA sh1 TX, frA sh1 F1 TX, cmOk sh1 TX) := runA_fail (i := i + 1) (runA_step hil hTXe hrun) (bool0 c_36)
            have g33 : ws_10[33]? = some (m0, .inr (10, [.int (nI th), .ref b1, .ref b2, .int (nI len), .int (nI ps), .ref b5, .ref b6, .ref b7, .int (nI ((runA sh (spanL so wi P)).1.length)), .int (nI ((runA sh (spanL so wi P)).1.flatten.length)), .int (nI so), .int (nI wi), .ref b12, .int (nI ((runA sh (spanL so wi P)).2.1.length)), .ref b14, .ref b15, .ref b16, .int (nI dn), .int (nI ca), .int (nI sta), .ref b20, .ref b21, .ref b22, .ref b23, .ref b24, .int (nI xn), .ref b26, .int (nI bb), .int (nI rr), .int (nI pp), .int (nI qq), .ref b31])) := by rw [hfin]; exact g33
            exact CI.ret (v := (nI 0)) C hK hP hD hS (by decide) (⟨_, _, _, _, (by rw [hfin]; show nI 0 = nI (cmOk sh1 TX).toNat; first | (rw [bool0 c_36]; rfl) | (rw [bool0 c_135]; rfl)), (by rw [hfin]; exact hst2), (by rw [hfin]; exact hfr2), (by rw [hfin]; exact haok.step.mono (by omega)), sm, g33, g36, g37, g38, g39⟩) hc0 hs0 dX9_all_40
    exact lp_14 _ 0 sh [] lf ff zf fr (Nat.lt_succ_self _) (Nat.zero_le _) rfl hst HdN.nil haok0 _ _ _ _ sm g33 g35 g36 g37 g38 g39 hP hD hS (lv_sub hl [1, 0] rfl)
