set_option maxHeartbeats 4000000 in
set_option maxRecDepth 100000 in
theorem c_X7_markPieces {D : va_G} {cB cI cJ cO : ClassId} {l : Launch} {a1 a2 a3 a4 len pl pcs gp : Nat} {so : Nat} {fp : Nat → Int32} {fs : Nat → Nat} {P : List Int32} {ws : va_W} (g1 : ws[1]? = some (a1, .inr (8, [.ref a2, .ref a3, .ref a4, .int (nI len), .int (nI pl), .int (nI pcs), .int (nI gp)]))) (g3 : ws[3]? = some (a3, .inl (cB, 800, .inl fp))) (g4 : ws[4]? = some (a4, .inl (cI, 801, .inl (fun jj => nI (fs jj))))) (hs1 : so ≤ 1) (hPf : Hd fp P) (hPl : P.length = pl) (hP8 : pl ≤ 800) (hPe : LastOK P) : CV D (TY cB cI cJ cO) l yX7_markPieces wsX7_markPieces ({ frames := 0, cells := 0, slots := 0, locals := 0 }) [.ref a1, .int (nI so)] ws (fun ws' => ∃ fs2 : Nat → Nat, (∀ j, j < pcnt so P → fs2 j = stt so P j) ∧ (fs2 (pcnt so P) = P.length + so) ∧ Sm (fun k => k = 1 ∨ k = 4) ws ws' ∧ ws'[1]? = some (a1, .inr (8, [.ref a2, .ref a3, .ref a4, .int (nI len), .int (nI pl), .int (nI (pcnt so P)), .int (nI so)])) ∧ ws'[4]? = some (a4, .inl (cI, 801, .inl (fun jj => nI (fs2 jj))))) := by
  refine CV.of (cc := cX7_markPieces) (maxL := 3) (ret := none) (by decide) rfl (Nat.le_of_ble_eq_true rfl) ?_
  intro p e s m below meth c A C hK hP hD hA hS ls hl
  obtain ⟨hx, hb, hr, hml, hts, hown, hlocks, hnm⟩ := id C
  have fl_15 := hts (.fieldLink RX7 15 "TwinFinder$Tape" "plain" "[B") (by decide +kernel)
  have fl_18 := hts (.fieldLink RX7 18 "TwinFinder$Tape" "start" "[I") (by decide +kernel)
  have fl_26 := hts (.fieldLink RX7 26 "TwinFinder$Tape" "plainLength" "I") (by decide +kernel)
  have fl_37 := hts (.fieldLink RX7 37 "TwinFinder$Tape" "gap" "I") (by decide +kernel)
  have fl_40 := hts (.fieldLink RX7 40 "TwinFinder$Tape" "pieces" "I") (by decide +kernel)
  have hin_X7 : ∀ w ∈ u_ws RX7 TX7 7, w ∈ wsX7_markPieces := by decide +kernel
  have hl : lv_has ls 3 [(0, .ref a1), (1, .int (nI so))] := hl
  have sm : Sm (fun k => k = 1 ∨ k = 4) ws ws := Sm.rf
  have hc0 : (0 : Nat) ≤ 0 := by decide
  have hs0 : (0 : Nat) ≤ 0 := by decide
  refine lv_aload_n hx hb dX7_markPieces_0 rfl (lv_at hl 0 rfl) ?_
  refine lv_iload_n hx hb dX7_markPieces_1 rfl (lv_at hl 1 rfl) ?_
  refine nx_if_eq (tgt := 9) hx hb (by omega) dX7_markPieces_2 (by decide) (fun c_2 => ?_) (fun c_2 => ?_)
  · refine lv_iconst (v := nI 0) hx hb dX7_markPieces_9 (by decide) ?_
    refine nx_put (D := D) (ci := 8) (v := .int (nI 0)) (ty := .int) (C := RX7) (T := TX7) (N := 7) hx hb hts hin_X7 tyX7 tyX7_ok nmX7 hown hK hP hD hS 1 g1 rfl 6 (by decide) fl_37 (fun _ h9 => h9) rfl (by decide +kernel) rfl rfl (Nat.le_of_ble_eq_true rfl) dX7_markPieces_10 (fun ws_1 H locs gq up_2 hP hD hS => ?_)
    have g1 : ws_1[1]? = some (a1, .inr (8, [.ref a2, .ref a3, .ref a4, .int (nI len), .int (nI pl), .int (nI pcs), .int (nI 0)])) := gq
    have g3 := up_2.get g3 (by decide)
    have g4 := up_2.get g4 (by decide)
    have sm := sm.up up_2 (by simp)
    refine lv_aload_n hx hb dX7_markPieces_13 rfl (lv_at hl 0 rfl) ?_
    refine lv_iconst (v := nI 0) hx hb dX7_markPieces_14 (by decide) ?_
    refine nx_put (D := D) (ci := 8) (v := .int (nI 0)) (ty := .int) (C := RX7) (T := TX7) (N := 7) hx hb hts hin_X7 tyX7 tyX7_ok nmX7 hown hK hP hD hS 1 g1 rfl 5 (by decide) fl_40 (fun _ h9 => h9) rfl (by decide +kernel) rfl rfl (Nat.le_of_ble_eq_true rfl) dX7_markPieces_15 (fun ws_3 H locs gq up_4 hP hD hS => ?_)
    have g1 : ws_3[1]? = some (a1, .inr (8, [.ref a2, .ref a3, .ref a4, .int (nI len), .int (nI pl), .int (nI 0), .int (nI 0)])) := gq
    have g3 := up_4.get g3 (by decide)
    have g4 := up_4.get g4 (by decide)
    have sm := sm.up up_4 (by simp)
    refine lv_iconst (v := nI 0) hx hb dX7_markPieces_18 (by decide) ?_
    refine lv_istore_n (lv' := [(2, .int (nI 0)), (0, .ref a1), (1, .int (nI so))]) hx hb dX7_markPieces_19 rfl hl (by decide) rfl (fun ls hl => ?_)
    have lp_20 : ∀ (fuel : Nat) (i v : Nat) (fs1 : Nat → Nat), pl - i < fuel → (i ≤ pl) → (MP so P i v) → (∀ j, j < v → fs1 j = stt so P j) → ∀ (ws1 : va_W) (H : Heap) (locs : List Loc) (ls : Array Slot), Sm (fun k => k = 1 ∨ k = 4) ws ws1 → ws1[1]? = some (a1, .inr (8, [.ref a2, .ref a3, .ref a4, .int (nI len), .int (nI pl), .int (nI v), .int (nI so)])) → ws1[3]? = some (a3, .inl (cB, 800, .inl fp)) → ws1[4]? = some (a4, .inl (cI, 801, .inl (fun jj => nI (fs1 jj)))) → va_P D vwCl ws1 H → va_D A ws1 → va_S A s.heap H locs → lv_has ls 3 [(0, .ref a1), (1, .int (nI so)), (2, .int (nI i))] → W p l e ({ frames := 0, cells := 0, slots := 0, locals := 0 }) s m ([.ref a1, .int (nI so)] : List Value).toArray below meth c H locs 0 0 (ZV D (TY cB cI cJ cO) (fun ws' => ∃ fs2 : Nat → Nat, (∀ j, j < pcnt so P → fs2 j = stt so P j) ∧ (fs2 (pcnt so P) = P.length + so) ∧ Sm (fun k => k = 1 ∨ k = 4) ws ws' ∧ ws'[1]? = some (a1, .inr (8, [.ref a2, .ref a3, .ref a4, .int (nI len), .int (nI pl), .int (nI (pcnt so P)), .int (nI so)])) ∧ ws'[4]? = some (a4, .inl (cI, 801, .inl (fun jj => nI (fs2 jj))))) below [.ref a1, .int (nI so)] s 0 0 A) (F0 m 20 ls []) := by
      intro fuel
      induction fuel with
      | zero => intro i v fs1 hfu; exact absurd hfu (Nat.not_lt_zero _)
      | succ fuel ih_20 =>
        intro i v fs1 hfu_20 hi hmp hfs ws1 H locs ls sm g1 g3 g4 hP hD hS hl
        refine lv_iload_n hx hb dX7_markPieces_20 rfl (lv_at hl 2 rfl) ?_
        refine lv_aload_n hx hb dX7_markPieces_21 rfl (lv_at hl 0 rfl) ?_
        refine va_get (D := D) (ci := 8) (v := .int (nI pl)) (C := RX7) (T := TX7) (N := 7) hx hb hts hin_X7 hown hK hP 1 g1 rfl 4 (by decide) fl_26 (fun _ h9 => h9) rfl dX7_markPieces_22 ?_
        refine nx_icmp_ge (tgt := 75) hx hb (by omega) (by omega) dX7_markPieces_25 (by decide) (fun c_25 => ?_) (fun c_25 => ?_)
        · refine lv_aload_n hx hb dX7_markPieces_75 rfl (lv_at hl 0 rfl) ?_
          refine va_get (D := D) (ci := 8) (v := .ref a4) (C := RX7) (T := TX7) (N := 7) hx hb hts hin_X7 hown hK hP 1 g1 rfl 2 (by decide) fl_18 (fun _ h9 => h9) rfl dX7_markPieces_76 ?_
          refine lv_aload_n hx hb dX7_markPieces_79 rfl (lv_at hl 0 rfl) ?_
          refine va_get (D := D) (ci := 8) (v := .int (nI v)) (C := RX7) (T := TX7) (N := 7) hx hb hts hin_X7 hown hK hP 1 g1 rfl 5 (by decide) fl_40 (fun _ h9 => h9) rfl dX7_markPieces_80 ?_
          refine lv_aload_n hx hb dX7_markPieces_83 rfl (lv_at hl 0 rfl) ?_
          refine va_get (D := D) (ci := 8) (v := .int (nI pl)) (C := RX7) (T := TX7) (N := 7) hx hb hts hin_X7 hown hK hP 1 g1 rfl 4 (by decide) fl_26 (fun _ h9 => h9) rfl dX7_markPieces_84 ?_
          refine lv_aload_n hx hb dX7_markPieces_87 rfl (lv_at hl 0 rfl) ?_
          refine va_get (D := D) (ci := 8) (v := .int (nI so)) (C := RX7) (T := TX7) (N := 7) hx hb hts hin_X7 hown hK hP 1 g1 rfl 6 (by decide) fl_37 (fun _ h9 => h9) rfl dX7_markPieces_88 ?_
          refine nx_iadd hx hb dX7_markPieces_91 ?_
          refine nx_iastN hx hb hK hP hD hS 4 1 g4 rfl (k := v) (by have := hmp.le; omega) (by decide) dX7_markPieces_92 (fun ws_5 H locs gq up_6 hP hD hS => ?_)
          have g4 : ws_5[4]? = some (a4, .inl (cI, 801, .inl (fun jj => nI ((va_up fs1 v (pl + so)) jj)))) := gq
          have g1 := up_6.get g1 (by decide)
          have g3 := up_6.get g3 (by decide)
          have sm := sm.up up_6 (by simp)
          have hvd := hmp.done hPe (by omega)
          have g1 : ws_5[1]? = some (a1, .inr (8, [.ref a2, .ref a3, .ref a4, .int (nI len), .int (nI pl), .int (nI (pcnt so P)), .int (nI so)])) := by rw [← hvd]; exact g1
          exact CV.ret C hK hP hD hS (⟨_, (fun j hj => by rw [va_up_ne _ _ (by omega)]; exact hfs j (by omega)), (by rw [← hvd, va_up_self, hPl]), sm, g1, g4⟩) hc0 hs0 dX7_markPieces_93
        · refine lv_iload_n hx hb dX7_markPieces_28 rfl (lv_at hl 1 rfl) ?_
          refine nx_if_eq (tgt := 49) hx hb (by omega) dX7_markPieces_29 (by decide) (fun c_29 => ?_) (fun c_29 => ?_)
          · refine lv_aload_n hx hb dX7_markPieces_49 rfl (lv_at hl 0 rfl) ?_
            refine va_get (D := D) (ci := 8) (v := .ref a4) (C := RX7) (T := TX7) (N := 7) hx hb hts hin_X7 hown hK hP 1 g1 rfl 2 (by decide) fl_18 (fun _ h9 => h9) rfl dX7_markPieces_50 ?_
            refine lv_aload_n hx hb dX7_markPieces_53 rfl (lv_at hl 0 rfl) ?_
            refine va_get (D := D) (ci := 8) (v := .int (nI v)) (C := RX7) (T := TX7) (N := 7) hx hb hts hin_X7 hown hK hP 1 g1 rfl 5 (by decide) fl_40 (fun _ h9 => h9) rfl dX7_markPieces_54 ?_
            refine lv_iload_n hx hb dX7_markPieces_57 rfl (lv_at hl 2 rfl) ?_
            refine nx_iastN hx hb hK hP hD hS 4 1 g4 rfl (k := v) (by have := hmp.le; omega) (by decide) dX7_markPieces_58 (fun ws_7 H locs gq up_8 hP hD hS => ?_)
            have g4 : ws_7[4]? = some (a4, .inl (cI, 801, .inl (fun jj => nI ((va_up fs1 v i) jj)))) := gq
            have g1 := up_8.get g1 (by decide)
            have g3 := up_8.get g3 (by decide)
            have sm := sm.up up_8 (by simp)
            refine lv_aload_n hx hb dX7_markPieces_59 rfl (lv_at hl 0 rfl) ?_
            refine lv_dup hx hb dX7_markPieces_60 rfl ?_
            refine va_get (D := D) (ci := 8) (v := .int (nI v)) (C := RX7) (T := TX7) (N := 7) hx hb hts hin_X7 hown hK hP 1 g1 rfl 5 (by decide) fl_40 (fun _ h9 => h9) rfl dX7_markPieces_61 ?_
            refine lv_iconst (v := nI 1) hx hb dX7_markPieces_64 (by decide) ?_
            refine nx_iadd hx hb dX7_markPieces_65 ?_
            refine nx_put (D := D) (ci := 8) (v := .int (nI (v + 1))) (ty := .int) (C := RX7) (T := TX7) (N := 7) hx hb hts hin_X7 tyX7 tyX7_ok nmX7 hown hK hP hD hS 1 g1 rfl 5 (by decide) fl_40 (fun _ h9 => h9) rfl (by decide +kernel) rfl rfl (Nat.le_of_ble_eq_true rfl) dX7_markPieces_66 (fun ws_9 H locs gq up_10 hP hD hS => ?_)
            have g1 : ws_9[1]? = some (a1, .inr (8, [.ref a2, .ref a3, .ref a4, .int (nI len), .int (nI pl), .int (nI (v + 1)), .int (nI so)])) := gq
            have g3 := up_10.get g3 (by decide)
            have g4 := up_10.get g4 (by decide)
            have sm := sm.up up_10 (by simp)
            refine lv_iinc (v := (nI (i + 1))) (lv' := [(2, .int (nI (i + 1))), (0, .ref a1), (1, .int (nI so))]) hx hb dX7_markPieces_69 hl (k := 2) rfl (nx_inc _ 1) (by decide) rfl (fun ls hl => ?_)
            refine lv_goto (tgt := 20) hx hb dX7_markPieces_72 (by decide) ?_
            have hh := hmp.hit (by omega) (Or.inl (by omega))
            exact ih_20 (i + 1) (v + 1) _ (by omega) (by omega) hh.2 (lt_s (fun j hj => by rw [va_up_ne _ _ (by omega)]; exact hfs j hj) (by rw [va_up_self]; exact hh.1.symm)) _ _ _ _ sm g1 g3 g4 hP hD hS (lv_sub hl [1, 2, 0] rfl)
          · refine lv_iload_n hx hb dX7_markPieces_32 rfl (lv_at hl 2 rfl) ?_
            refine nx_if_eq (tgt := 49) hx hb (by omega) dX7_markPieces_33 (by decide) (fun c_33 => ?_) (fun c_33 => ?_)
            · refine lv_aload_n hx hb dX7_markPieces_49 rfl (lv_at hl 0 rfl) ?_
              refine va_get (D := D) (ci := 8) (v := .ref a4) (C := RX7) (T := TX7) (N := 7) hx hb hts hin_X7 hown hK hP 1 g1 rfl 2 (by decide) fl_18 (fun _ h9 => h9) rfl dX7_markPieces_50 ?_
              refine lv_aload_n hx hb dX7_markPieces_53 rfl (lv_at hl 0 rfl) ?_
              refine va_get (D := D) (ci := 8) (v := .int (nI v)) (C := RX7) (T := TX7) (N := 7) hx hb hts hin_X7 hown hK hP 1 g1 rfl 5 (by decide) fl_40 (fun _ h9 => h9) rfl dX7_markPieces_54 ?_
              refine lv_iload_n hx hb dX7_markPieces_57 rfl (lv_at hl 2 rfl) ?_
              refine nx_iastN hx hb hK hP hD hS 4 1 g4 rfl (k := v) (by have := hmp.le; omega) (by decide) dX7_markPieces_58 (fun ws_11 H locs gq up_12 hP hD hS => ?_)
              have g4 : ws_11[4]? = some (a4, .inl (cI, 801, .inl (fun jj => nI ((va_up fs1 v i) jj)))) := gq
              have g1 := up_12.get g1 (by decide)
              have g3 := up_12.get g3 (by decide)
              have sm := sm.up up_12 (by simp)
              refine lv_aload_n hx hb dX7_markPieces_59 rfl (lv_at hl 0 rfl) ?_
              refine lv_dup hx hb dX7_markPieces_60 rfl ?_
              refine va_get (D := D) (ci := 8) (v := .int (nI v)) (C := RX7) (T := TX7) (N := 7) hx hb hts hin_X7 hown hK hP 1 g1 rfl 5 (by decide) fl_40 (fun _ h9 => h9) rfl dX7_markPieces_61 ?_
              refine lv_iconst (v := nI 1) hx hb dX7_markPieces_64 (by decide) ?_
              refine nx_iadd hx hb dX7_markPieces_65 ?_
              refine nx_put (D := D) (ci := 8) (v := .int (nI (v + 1))) (ty := .int) (C := RX7) (T := TX7) (N := 7) hx hb hts hin_X7 tyX7 tyX7_ok nmX7 hown hK hP hD hS 1 g1 rfl 5 (by decide) fl_40 (fun _ h9 => h9) rfl (by decide +kernel) rfl rfl (Nat.le_of_ble_eq_true rfl) dX7_markPieces_66 (fun ws_13 H locs gq up_14 hP hD hS => ?_)
              have g1 : ws_13[1]? = some (a1, .inr (8, [.ref a2, .ref a3, .ref a4, .int (nI len), .int (nI pl), .int (nI (v + 1)), .int (nI so)])) := gq
              have g3 := up_14.get g3 (by decide)
              have g4 := up_14.get g4 (by decide)
              have sm := sm.up up_14 (by simp)
              refine lv_iinc (v := (nI (i + 1))) (lv' := [(2, .int (nI (i + 1))), (0, .ref a1), (1, .int (nI so))]) hx hb dX7_markPieces_69 hl (k := 2) rfl (nx_inc _ 1) (by decide) rfl (fun ls hl => ?_)
              refine lv_goto (tgt := 20) hx hb dX7_markPieces_72 (by decide) ?_
              have hh := hmp.hit (by omega) (Or.inr (Or.inl (by omega)))
              exact ih_20 (i + 1) (v + 1) _ (by omega) (by omega) hh.2 (lt_s (fun j hj => by rw [va_up_ne _ _ (by omega)]; exact hfs j hj) (by rw [va_up_self]; exact hh.1.symm)) _ _ _ _ sm g1 g3 g4 hP hD hS (lv_sub hl [1, 2, 0] rfl)
            · refine lv_aload_n hx hb dX7_markPieces_36 rfl (lv_at hl 0 rfl) ?_
              refine va_get (D := D) (ci := 8) (v := .ref a3) (C := RX7) (T := TX7) (N := 7) hx hb hts hin_X7 hown hK hP 1 g1 rfl 1 (by decide) fl_15 (fun _ h9 => h9) rfl dX7_markPieces_37 ?_
              refine lv_iload_n hx hb dX7_markPieces_40 rfl (lv_at hl 2 rfl) ?_
              refine lv_iconst (v := nI 1) hx hb dX7_markPieces_41 (by decide) ?_
              refine nx_isub hx hb (by omega) dX7_markPieces_42 ?_
              refine nx_bald hx hb hK hP 3 0 g3 rfl (k := (i - 1)) (by omega) (by decide) dX7_markPieces_43 ?_
              refine lv_bipush (v := nI 32) hx hb dX7_markPieces_44 (by decide) ?_
              refine lv_icmp_ne (tgt := 69) hx hb dX7_markPieces_46 (by decide) (fun c_46 => ?_) (fun c_46 => ?_)
              · refine lv_iinc (v := (nI (i + 1))) (lv' := [(2, .int (nI (i + 1))), (0, .ref a1), (1, .int (nI so))]) hx hb dX7_markPieces_69 hl (k := 2) rfl (nx_inc _ 1) (by decide) rfl (fun ls hl => ?_)
                refine lv_goto (tgt := 20) hx hb dX7_markPieces_72 (by decide) ?_
                exact ih_20 (i + 1) v _ (by omega) (by omega) (hmp.miss (by omega) (by omega) (by omega) (fun h9 => by rw [← hPf.at (by omega)]; exact c_46)) hfs _ _ _ _ sm g1 g3 g4 hP hD hS (lv_sub hl [1, 2, 0] rfl)
              · refine lv_aload_n hx hb dX7_markPieces_49 rfl (lv_at hl 0 rfl) ?_
                refine va_get (D := D) (ci := 8) (v := .ref a4) (C := RX7) (T := TX7) (N := 7) hx hb hts hin_X7 hown hK hP 1 g1 rfl 2 (by decide) fl_18 (fun _ h9 => h9) rfl dX7_markPieces_50 ?_
                refine lv_aload_n hx hb dX7_markPieces_53 rfl (lv_at hl 0 rfl) ?_
                refine va_get (D := D) (ci := 8) (v := .int (nI v)) (C := RX7) (T := TX7) (N := 7) hx hb hts hin_X7 hown hK hP 1 g1 rfl 5 (by decide) fl_40 (fun _ h9 => h9) rfl dX7_markPieces_54 ?_
                refine lv_iload_n hx hb dX7_markPieces_57 rfl (lv_at hl 2 rfl) ?_
                refine nx_iastN hx hb hK hP hD hS 4 1 g4 rfl (k := v) (by have := hmp.le; omega) (by decide) dX7_markPieces_58 (fun ws_15 H locs gq up_16 hP hD hS => ?_)
                have g4 : ws_15[4]? = some (a4, .inl (cI, 801, .inl (fun jj => nI ((va_up fs1 v i) jj)))) := gq
                have g1 := up_16.get g1 (by decide)
                have g3 := up_16.get g3 (by decide)
                have sm := sm.up up_16 (by simp)
                refine lv_aload_n hx hb dX7_markPieces_59 rfl (lv_at hl 0 rfl) ?_
                refine lv_dup hx hb dX7_markPieces_60 rfl ?_
                refine va_get (D := D) (ci := 8) (v := .int (nI v)) (C := RX7) (T := TX7) (N := 7) hx hb hts hin_X7 hown hK hP 1 g1 rfl 5 (by decide) fl_40 (fun _ h9 => h9) rfl dX7_markPieces_61 ?_
                refine lv_iconst (v := nI 1) hx hb dX7_markPieces_64 (by decide) ?_
                refine nx_iadd hx hb dX7_markPieces_65 ?_
                refine nx_put (D := D) (ci := 8) (v := .int (nI (v + 1))) (ty := .int) (C := RX7) (T := TX7) (N := 7) hx hb hts hin_X7 tyX7 tyX7_ok nmX7 hown hK hP hD hS 1 g1 rfl 5 (by decide) fl_40 (fun _ h9 => h9) rfl (by decide +kernel) rfl rfl (Nat.le_of_ble_eq_true rfl) dX7_markPieces_66 (fun ws_17 H locs gq up_18 hP hD hS => ?_)
                have g1 : ws_17[1]? = some (a1, .inr (8, [.ref a2, .ref a3, .ref a4, .int (nI len), .int (nI pl), .int (nI (v + 1)), .int (nI so)])) := gq
                have g3 := up_18.get g3 (by decide)
                have g4 := up_18.get g4 (by decide)
                have sm := sm.up up_18 (by simp)
                refine lv_iinc (v := (nI (i + 1))) (lv' := [(2, .int (nI (i + 1))), (0, .ref a1), (1, .int (nI so))]) hx hb dX7_markPieces_69 hl (k := 2) rfl (nx_inc _ 1) (by decide) rfl (fun ls hl => ?_)
                refine lv_goto (tgt := 20) hx hb dX7_markPieces_72 (by decide) ?_
                have hh := hmp.hit (by omega) (Or.inr (Or.inr ⟨by omega, by rw [← hPf.at (by omega)]; exact c_46⟩))
                exact ih_20 (i + 1) (v + 1) _ (by omega) (by omega) hh.2 (lt_s (fun j hj => by rw [va_up_ne _ _ (by omega)]; exact hfs j hj) (by rw [va_up_self]; exact hh.1.symm)) _ _ _ _ sm g1 g3 g4 hP hD hS (lv_sub hl [1, 2, 0] rfl)
    have g1 : ws_3[1]? = some (a1, .inr (8, [.ref a2, .ref a3, .ref a4, .int (nI len), .int (nI pl), .int (nI 0), .int (nI so)])) := by rw [show so = 0 by omega]; exact g1
    exact lp_20 _ 0 0 _ (Nat.lt_succ_self _) (Nat.zero_le _) MP.start (fun j hj => absurd hj (Nat.not_lt_zero j)) _ _ _ _ sm g1 g3 g4 hP hD hS (lv_sub hl [1, 2, 0] rfl)
  · refine lv_iconst (v := nI 1) hx hb dX7_markPieces_5 (by decide) ?_
    refine lv_goto (tgt := 10) hx hb dX7_markPieces_6 (by decide) ?_
    refine nx_put (D := D) (ci := 8) (v := .int (nI 1)) (ty := .int) (C := RX7) (T := TX7) (N := 7) hx hb hts hin_X7 tyX7 tyX7_ok nmX7 hown hK hP hD hS 1 g1 rfl 6 (by decide) fl_37 (fun _ h9 => h9) rfl (by decide +kernel) rfl rfl (Nat.le_of_ble_eq_true rfl) dX7_markPieces_10 (fun ws_19 H locs gq up_20 hP hD hS => ?_)
    have g1 : ws_19[1]? = some (a1, .inr (8, [.ref a2, .ref a3, .ref a4, .int (nI len), .int (nI pl), .int (nI pcs), .int (nI 1)])) := gq
    have g3 := up_20.get g3 (by decide)
    have g4 := up_20.get g4 (by decide)
    have sm := sm.up up_20 (by simp)
    refine lv_aload_n hx hb dX7_markPieces_13 rfl (lv_at hl 0 rfl) ?_
    refine lv_iconst (v := nI 0) hx hb dX7_markPieces_14 (by decide) ?_
    refine nx_put (D := D) (ci := 8) (v := .int (nI 0)) (ty := .int) (C := RX7) (T := TX7) (N := 7) hx hb hts hin_X7 tyX7 tyX7_ok nmX7 hown hK hP hD hS 1 g1 rfl 5 (by decide) fl_40 (fun _ h9 => h9) rfl (by decide +kernel) rfl rfl (Nat.le_of_ble_eq_true rfl) dX7_markPieces_15 (fun ws_21 H locs gq up_22 hP hD hS => ?_)
    have g1 : ws_21[1]? = some (a1, .inr (8, [.ref a2, .ref a3, .ref a4, .int (nI len), .int (nI pl), .int (nI 0), .int (nI 1)])) := gq
    have g3 := up_22.get g3 (by decide)
    have g4 := up_22.get g4 (by decide)
    have sm := sm.up up_22 (by simp)
    refine lv_iconst (v := nI 0) hx hb dX7_markPieces_18 (by decide) ?_
    refine lv_istore_n (lv' := [(2, .int (nI 0)), (0, .ref a1), (1, .int (nI so))]) hx hb dX7_markPieces_19 rfl hl (by decide) rfl (fun ls hl => ?_)
    have lp_20 : ∀ (fuel : Nat) (i v : Nat) (fs1 : Nat → Nat), pl - i < fuel → (i ≤ pl) → (MP so P i v) → (∀ j, j < v → fs1 j = stt so P j) → ∀ (ws1 : va_W) (H : Heap) (locs : List Loc) (ls : Array Slot), Sm (fun k => k = 1 ∨ k = 4) ws ws1 → ws1[1]? = some (a1, .inr (8, [.ref a2, .ref a3, .ref a4, .int (nI len), .int (nI pl), .int (nI v), .int (nI so)])) → ws1[3]? = some (a3, .inl (cB, 800, .inl fp)) → ws1[4]? = some (a4, .inl (cI, 801, .inl (fun jj => nI (fs1 jj)))) → va_P D vwCl ws1 H → va_D A ws1 → va_S A s.heap H locs → lv_has ls 3 [(0, .ref a1), (1, .int (nI so)), (2, .int (nI i))] → W p l e ({ frames := 0, cells := 0, slots := 0, locals := 0 }) s m ([.ref a1, .int (nI so)] : List Value).toArray below meth c H locs 0 0 (ZV D (TY cB cI cJ cO) (fun ws' => ∃ fs2 : Nat → Nat, (∀ j, j < pcnt so P → fs2 j = stt so P j) ∧ (fs2 (pcnt so P) = P.length + so) ∧ Sm (fun k => k = 1 ∨ k = 4) ws ws' ∧ ws'[1]? = some (a1, .inr (8, [.ref a2, .ref a3, .ref a4, .int (nI len), .int (nI pl), .int (nI (pcnt so P)), .int (nI so)])) ∧ ws'[4]? = some (a4, .inl (cI, 801, .inl (fun jj => nI (fs2 jj))))) below [.ref a1, .int (nI so)] s 0 0 A) (F0 m 20 ls []) := by
      intro fuel
      induction fuel with
      | zero => intro i v fs1 hfu; exact absurd hfu (Nat.not_lt_zero _)
      | succ fuel ih_20 =>
        intro i v fs1 hfu_20 hi hmp hfs ws1 H locs ls sm g1 g3 g4 hP hD hS hl
        refine lv_iload_n hx hb dX7_markPieces_20 rfl (lv_at hl 2 rfl) ?_
        refine lv_aload_n hx hb dX7_markPieces_21 rfl (lv_at hl 0 rfl) ?_
        refine va_get (D := D) (ci := 8) (v := .int (nI pl)) (C := RX7) (T := TX7) (N := 7) hx hb hts hin_X7 hown hK hP 1 g1 rfl 4 (by decide) fl_26 (fun _ h9 => h9) rfl dX7_markPieces_22 ?_
        refine nx_icmp_ge (tgt := 75) hx hb (by omega) (by omega) dX7_markPieces_25 (by decide) (fun c_25 => ?_) (fun c_25 => ?_)
        · refine lv_aload_n hx hb dX7_markPieces_75 rfl (lv_at hl 0 rfl) ?_
          refine va_get (D := D) (ci := 8) (v := .ref a4) (C := RX7) (T := TX7) (N := 7) hx hb hts hin_X7 hown hK hP 1 g1 rfl 2 (by decide) fl_18 (fun _ h9 => h9) rfl dX7_markPieces_76 ?_
          refine lv_aload_n hx hb dX7_markPieces_79 rfl (lv_at hl 0 rfl) ?_
          refine va_get (D := D) (ci := 8) (v := .int (nI v)) (C := RX7) (T := TX7) (N := 7) hx hb hts hin_X7 hown hK hP 1 g1 rfl 5 (by decide) fl_40 (fun _ h9 => h9) rfl dX7_markPieces_80 ?_
          refine lv_aload_n hx hb dX7_markPieces_83 rfl (lv_at hl 0 rfl) ?_
          refine va_get (D := D) (ci := 8) (v := .int (nI pl)) (C := RX7) (T := TX7) (N := 7) hx hb hts hin_X7 hown hK hP 1 g1 rfl 4 (by decide) fl_26 (fun _ h9 => h9) rfl dX7_markPieces_84 ?_
          refine lv_aload_n hx hb dX7_markPieces_87 rfl (lv_at hl 0 rfl) ?_
          refine va_get (D := D) (ci := 8) (v := .int (nI so)) (C := RX7) (T := TX7) (N := 7) hx hb hts hin_X7 hown hK hP 1 g1 rfl 6 (by decide) fl_37 (fun _ h9 => h9) rfl dX7_markPieces_88 ?_
          refine nx_iadd hx hb dX7_markPieces_91 ?_
          refine nx_iastN hx hb hK hP hD hS 4 1 g4 rfl (k := v) (by have := hmp.le; omega) (by decide) dX7_markPieces_92 (fun ws_23 H locs gq up_24 hP hD hS => ?_)
          have g4 : ws_23[4]? = some (a4, .inl (cI, 801, .inl (fun jj => nI ((va_up fs1 v (pl + so)) jj)))) := gq
          have g1 := up_24.get g1 (by decide)
          have g3 := up_24.get g3 (by decide)
          have sm := sm.up up_24 (by simp)
          have hvd := hmp.done hPe (by omega)
          have g1 : ws_23[1]? = some (a1, .inr (8, [.ref a2, .ref a3, .ref a4, .int (nI len), .int (nI pl), .int (nI (pcnt so P)), .int (nI so)])) := by rw [← hvd]; exact g1
          exact CV.ret C hK hP hD hS (⟨_, (fun j hj => by rw [va_up_ne _ _ (by omega)]; exact hfs j (by omega)), (by rw [← hvd, va_up_self, hPl]), sm, g1, g4⟩) hc0 hs0 dX7_markPieces_93
        · refine lv_iload_n hx hb dX7_markPieces_28 rfl (lv_at hl 1 rfl) ?_
          refine nx_if_eq (tgt := 49) hx hb (by omega) dX7_markPieces_29 (by decide) (fun c_29 => ?_) (fun c_29 => ?_)
          · refine lv_aload_n hx hb dX7_markPieces_49 rfl (lv_at hl 0 rfl) ?_
            refine va_get (D := D) (ci := 8) (v := .ref a4) (C := RX7) (T := TX7) (N := 7) hx hb hts hin_X7 hown hK hP 1 g1 rfl 2 (by decide) fl_18 (fun _ h9 => h9) rfl dX7_markPieces_50 ?_
            refine lv_aload_n hx hb dX7_markPieces_53 rfl (lv_at hl 0 rfl) ?_
            refine va_get (D := D) (ci := 8) (v := .int (nI v)) (C := RX7) (T := TX7) (N := 7) hx hb hts hin_X7 hown hK hP 1 g1 rfl 5 (by decide) fl_40 (fun _ h9 => h9) rfl dX7_markPieces_54 ?_
            refine lv_iload_n hx hb dX7_markPieces_57 rfl (lv_at hl 2 rfl) ?_
            refine nx_iastN hx hb hK hP hD hS 4 1 g4 rfl (k := v) (by have := hmp.le; omega) (by decide) dX7_markPieces_58 (fun ws_25 H locs gq up_26 hP hD hS => ?_)
            have g4 : ws_25[4]? = some (a4, .inl (cI, 801, .inl (fun jj => nI ((va_up fs1 v i) jj)))) := gq
            have g1 := up_26.get g1 (by decide)
            have g3 := up_26.get g3 (by decide)
            have sm := sm.up up_26 (by simp)
            refine lv_aload_n hx hb dX7_markPieces_59 rfl (lv_at hl 0 rfl) ?_
            refine lv_dup hx hb dX7_markPieces_60 rfl ?_
            refine va_get (D := D) (ci := 8) (v := .int (nI v)) (C := RX7) (T := TX7) (N := 7) hx hb hts hin_X7 hown hK hP 1 g1 rfl 5 (by decide) fl_40 (fun _ h9 => h9) rfl dX7_markPieces_61 ?_
            refine lv_iconst (v := nI 1) hx hb dX7_markPieces_64 (by decide) ?_
            refine nx_iadd hx hb dX7_markPieces_65 ?_
            refine nx_put (D := D) (ci := 8) (v := .int (nI (v + 1))) (ty := .int) (C := RX7) (T := TX7) (N := 7) hx hb hts hin_X7 tyX7 tyX7_ok nmX7 hown hK hP hD hS 1 g1 rfl 5 (by decide) fl_40 (fun _ h9 => h9) rfl (by decide +kernel) rfl rfl (Nat.le_of_ble_eq_true rfl) dX7_markPieces_66 (fun ws_27 H locs gq up_28 hP hD hS => ?_)
            have g1 : ws_27[1]? = some (a1, .inr (8, [.ref a2, .ref a3, .ref a4, .int (nI len), .int (nI pl), .int (nI (v + 1)), .int (nI so)])) := gq
            have g3 := up_28.get g3 (by decide)
            have g4 := up_28.get g4 (by decide)
            have sm := sm.up up_28 (by simp)
            refine lv_iinc (v := (nI (i + 1))) (lv' := [(2, .int (nI (i + 1))), (0, .ref a1), (1, .int (nI so))]) hx hb dX7_markPieces_69 hl (k := 2) rfl (nx_inc _ 1) (by decide) rfl (fun ls hl => ?_)
            refine lv_goto (tgt := 20) hx hb dX7_markPieces_72 (by decide) ?_
            have hh := hmp.hit (by omega) (Or.inl (by omega))
            exact ih_20 (i + 1) (v + 1) _ (by omega) (by omega) hh.2 (lt_s (fun j hj => by rw [va_up_ne _ _ (by omega)]; exact hfs j hj) (by rw [va_up_self]; exact hh.1.symm)) _ _ _ _ sm g1 g3 g4 hP hD hS (lv_sub hl [1, 2, 0] rfl)
          · refine lv_iload_n hx hb dX7_markPieces_32 rfl (lv_at hl 2 rfl) ?_
            refine nx_if_eq (tgt := 49) hx hb (by omega) dX7_markPieces_33 (by decide) (fun c_33 => ?_) (fun c_33 => ?_)
            · refine lv_aload_n hx hb dX7_markPieces_49 rfl (lv_at hl 0 rfl) ?_
              refine va_get (D := D) (ci := 8) (v := .ref a4) (C := RX7) (T := TX7) (N := 7) hx hb hts hin_X7 hown hK hP 1 g1 rfl 2 (by decide) fl_18 (fun _ h9 => h9) rfl dX7_markPieces_50 ?_
              refine lv_aload_n hx hb dX7_markPieces_53 rfl (lv_at hl 0 rfl) ?_
              refine va_get (D := D) (ci := 8) (v := .int (nI v)) (C := RX7) (T := TX7) (N := 7) hx hb hts hin_X7 hown hK hP 1 g1 rfl 5 (by decide) fl_40 (fun _ h9 => h9) rfl dX7_markPieces_54 ?_
              refine lv_iload_n hx hb dX7_markPieces_57 rfl (lv_at hl 2 rfl) ?_
              refine nx_iastN hx hb hK hP hD hS 4 1 g4 rfl (k := v) (by have := hmp.le; omega) (by decide) dX7_markPieces_58 (fun ws_29 H locs gq up_30 hP hD hS => ?_)
              have g4 : ws_29[4]? = some (a4, .inl (cI, 801, .inl (fun jj => nI ((va_up fs1 v i) jj)))) := gq
              have g1 := up_30.get g1 (by decide)
              have g3 := up_30.get g3 (by decide)
              have sm := sm.up up_30 (by simp)
              refine lv_aload_n hx hb dX7_markPieces_59 rfl (lv_at hl 0 rfl) ?_
              refine lv_dup hx hb dX7_markPieces_60 rfl ?_
              refine va_get (D := D) (ci := 8) (v := .int (nI v)) (C := RX7) (T := TX7) (N := 7) hx hb hts hin_X7 hown hK hP 1 g1 rfl 5 (by decide) fl_40 (fun _ h9 => h9) rfl dX7_markPieces_61 ?_
              refine lv_iconst (v := nI 1) hx hb dX7_markPieces_64 (by decide) ?_
              refine nx_iadd hx hb dX7_markPieces_65 ?_
              refine nx_put (D := D) (ci := 8) (v := .int (nI (v + 1))) (ty := .int) (C := RX7) (T := TX7) (N := 7) hx hb hts hin_X7 tyX7 tyX7_ok nmX7 hown hK hP hD hS 1 g1 rfl 5 (by decide) fl_40 (fun _ h9 => h9) rfl (by decide +kernel) rfl rfl (Nat.le_of_ble_eq_true rfl) dX7_markPieces_66 (fun ws_31 H locs gq up_32 hP hD hS => ?_)
              have g1 : ws_31[1]? = some (a1, .inr (8, [.ref a2, .ref a3, .ref a4, .int (nI len), .int (nI pl), .int (nI (v + 1)), .int (nI so)])) := gq
              have g3 := up_32.get g3 (by decide)
              have g4 := up_32.get g4 (by decide)
              have sm := sm.up up_32 (by simp)
              refine lv_iinc (v := (nI (i + 1))) (lv' := [(2, .int (nI (i + 1))), (0, .ref a1), (1, .int (nI so))]) hx hb dX7_markPieces_69 hl (k := 2) rfl (nx_inc _ 1) (by decide) rfl (fun ls hl => ?_)
              refine lv_goto (tgt := 20) hx hb dX7_markPieces_72 (by decide) ?_
              have hh := hmp.hit (by omega) (Or.inr (Or.inl (by omega)))
              exact ih_20 (i + 1) (v + 1) _ (by omega) (by omega) hh.2 (lt_s (fun j hj => by rw [va_up_ne _ _ (by omega)]; exact hfs j hj) (by rw [va_up_self]; exact hh.1.symm)) _ _ _ _ sm g1 g3 g4 hP hD hS (lv_sub hl [1, 2, 0] rfl)
            · refine lv_aload_n hx hb dX7_markPieces_36 rfl (lv_at hl 0 rfl) ?_
              refine va_get (D := D) (ci := 8) (v := .ref a3) (C := RX7) (T := TX7) (N := 7) hx hb hts hin_X7 hown hK hP 1 g1 rfl 1 (by decide) fl_15 (fun _ h9 => h9) rfl dX7_markPieces_37 ?_
              refine lv_iload_n hx hb dX7_markPieces_40 rfl (lv_at hl 2 rfl) ?_
              refine lv_iconst (v := nI 1) hx hb dX7_markPieces_41 (by decide) ?_
              refine nx_isub hx hb (by omega) dX7_markPieces_42 ?_
              refine nx_bald hx hb hK hP 3 0 g3 rfl (k := (i - 1)) (by omega) (by decide) dX7_markPieces_43 ?_
              refine lv_bipush (v := nI 32) hx hb dX7_markPieces_44 (by decide) ?_
              refine lv_icmp_ne (tgt := 69) hx hb dX7_markPieces_46 (by decide) (fun c_46 => ?_) (fun c_46 => ?_)
              · refine lv_iinc (v := (nI (i + 1))) (lv' := [(2, .int (nI (i + 1))), (0, .ref a1), (1, .int (nI so))]) hx hb dX7_markPieces_69 hl (k := 2) rfl (nx_inc _ 1) (by decide) rfl (fun ls hl => ?_)
                refine lv_goto (tgt := 20) hx hb dX7_markPieces_72 (by decide) ?_
                exact ih_20 (i + 1) v _ (by omega) (by omega) (hmp.miss (by omega) (by omega) (by omega) (fun h9 => by rw [← hPf.at (by omega)]; exact c_46)) hfs _ _ _ _ sm g1 g3 g4 hP hD hS (lv_sub hl [1, 2, 0] rfl)
              · refine lv_aload_n hx hb dX7_markPieces_49 rfl (lv_at hl 0 rfl) ?_
                refine va_get (D := D) (ci := 8) (v := .ref a4) (C := RX7) (T := TX7) (N := 7) hx hb hts hin_X7 hown hK hP 1 g1 rfl 2 (by decide) fl_18 (fun _ h9 => h9) rfl dX7_markPieces_50 ?_
                refine lv_aload_n hx hb dX7_markPieces_53 rfl (lv_at hl 0 rfl) ?_
                refine va_get (D := D) (ci := 8) (v := .int (nI v)) (C := RX7) (T := TX7) (N := 7) hx hb hts hin_X7 hown hK hP 1 g1 rfl 5 (by decide) fl_40 (fun _ h9 => h9) rfl dX7_markPieces_54 ?_
                refine lv_iload_n hx hb dX7_markPieces_57 rfl (lv_at hl 2 rfl) ?_
                refine nx_iastN hx hb hK hP hD hS 4 1 g4 rfl (k := v) (by have := hmp.le; omega) (by decide) dX7_markPieces_58 (fun ws_33 H locs gq up_34 hP hD hS => ?_)
                have g4 : ws_33[4]? = some (a4, .inl (cI, 801, .inl (fun jj => nI ((va_up fs1 v i) jj)))) := gq
                have g1 := up_34.get g1 (by decide)
                have g3 := up_34.get g3 (by decide)
                have sm := sm.up up_34 (by simp)
                refine lv_aload_n hx hb dX7_markPieces_59 rfl (lv_at hl 0 rfl) ?_
                refine lv_dup hx hb dX7_markPieces_60 rfl ?_
                refine va_get (D := D) (ci := 8) (v := .int (nI v)) (C := RX7) (T := TX7) (N := 7) hx hb hts hin_X7 hown hK hP 1 g1 rfl 5 (by decide) fl_40 (fun _ h9 => h9) rfl dX7_markPieces_61 ?_
                refine lv_iconst (v := nI 1) hx hb dX7_markPieces_64 (by decide) ?_
                refine nx_iadd hx hb dX7_markPieces_65 ?_
                refine nx_put (D := D) (ci := 8) (v := .int (nI (v + 1))) (ty := .int) (C := RX7) (T := TX7) (N := 7) hx hb hts hin_X7 tyX7 tyX7_ok nmX7 hown hK hP hD hS 1 g1 rfl 5 (by decide) fl_40 (fun _ h9 => h9) rfl (by decide +kernel) rfl rfl (Nat.le_of_ble_eq_true rfl) dX7_markPieces_66 (fun ws_35 H locs gq up_36 hP hD hS => ?_)
                have g1 : ws_35[1]? = some (a1, .inr (8, [.ref a2, .ref a3, .ref a4, .int (nI len), .int (nI pl), .int (nI (v + 1)), .int (nI so)])) := gq
                have g3 := up_36.get g3 (by decide)
                have g4 := up_36.get g4 (by decide)
                have sm := sm.up up_36 (by simp)
                refine lv_iinc (v := (nI (i + 1))) (lv' := [(2, .int (nI (i + 1))), (0, .ref a1), (1, .int (nI so))]) hx hb dX7_markPieces_69 hl (k := 2) rfl (nx_inc _ 1) (by decide) rfl (fun ls hl => ?_)
                refine lv_goto (tgt := 20) hx hb dX7_markPieces_72 (by decide) ?_
                have hh := hmp.hit (by omega) (Or.inr (Or.inr ⟨by omega, by rw [← hPf.at (by omega)]; exact c_46⟩))
                exact ih_20 (i + 1) (v + 1) _ (by omega) (by omega) hh.2 (lt_s (fun j hj => by rw [va_up_ne _ _ (by omega)]; exact hfs j hj) (by rw [va_up_self]; exact hh.1.symm)) _ _ _ _ sm g1 g3 g4 hP hD hS (lv_sub hl [1, 2, 0] rfl)
    have g1 : ws_21[1]? = some (a1, .inr (8, [.ref a2, .ref a3, .ref a4, .int (nI len), .int (nI pl), .int (nI 0), .int (nI so)])) := by rw [show so = 1 by omega]; exact g1
    exact lp_20 _ 0 0 _ (Nat.lt_succ_self _) (Nat.zero_le _) MP.start (fun j hj => absurd hj (Nat.not_lt_zero j)) _ _ _ _ sm g1 g3 g4 hP hD hS (lv_sub hl [1, 2, 0] rfl)
