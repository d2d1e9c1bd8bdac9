set_option maxHeartbeats 4000000 in
set_option maxRecDepth 100000 in
theorem c_X1_join {D : va_G} {cB cI cJ cO : ClassId} {l : Launch} {k0 : Nat} {k1 k4 k7 k8 k9 k10 plc kn : Nat} {fa : Nat → Nat} {x y : Nat} {ws : va_W} (g21 : ws[21]? = some (k0, .inr (2, [.ref k1, .ref k4, .ref k7, .ref k8, .ref k9, .ref k10, .int (nI plc), .int (nI kn)]))) (g30 : ws[30]? = some (k9, .inl (cI, 48, .inl (fun jj => nI (fa jj))))) (hpl : plc ≤ 48) (hx9 : x < 48) (hy9 : y < 48) (hfa : ∀ k, k < plc → fa k < 48) : CV D (TY cB cI cJ cO) l yX1_join wsX1_join ({ frames := 1, cells := 0, slots := 0, locals := 21 }) [.ref k0, .int (nI x), .int (nI y)] ws (fun ws' => Sm (fun k => k = 30) ws ws' ∧ ws'[30]? = some (k9, .inl (cI, 48, .inl (fun jj => nI ((mrgP fa (max x y) (min x y) plc) jj))))) := by
  refine CV.of (cc := cX1_join) (maxL := 6) (ret := none) (by decide) rfl (Nat.le_of_ble_eq_true rfl) ?_
  intro p e s m below meth c A C hK hP hD hA hS ls hl
  obtain ⟨hx, hb, hr, hml, hts, hown, hlocks, hnm⟩ := id C
  have fl_28 := hts (.fieldLink RX1 28 "TwinFinder$Kin" "leader" "[I") (by decide +kernel)
  have fl_42 := hts (.fieldLink RX1 42 "TwinFinder$Kin" "places" "I") (by decide +kernel)
  have hin_X1 : ∀ w ∈ u_ws RX1 TX1 8, w ∈ wsX1_join := by decide +kernel
  have hl : lv_has ls 6 [(0, .ref k0), (1, .int (nI x)), (2, .int (nI y))] := hl
  have sm : Sm (fun k => k = 30) ws ws := Sm.rf
  have hc0 : (0 : Nat) ≤ 0 := by decide
  have hs0 : (0 : Nat) ≤ 0 := by decide
  refine lv_iload_n hx hb dX1_join_0 rfl (lv_at hl 1 rfl) ?_
  refine lv_iload_n hx hb dX1_join_1 rfl (lv_at hl 2 rfl) ?_
  refine va_mmin hx hb (hml.trans hl.1.symm) hown (hts (.methodLink RX1 62 Lib.Math.min.name) (by decide +kernel)) (hts (.static Lib.Math.min.name) (by decide +kernel)) (hts (.initialized "java/lang/Math") (by decide +kernel)) (hts (.code Lib.Math.min.name Lib.Math.min.code 2 (some .int)) (by decide +kernel)) (Nat.le_of_ble_eq_true rfl) (Nat.le_of_ble_eq_true rfl) (Nat.le_of_ble_eq_true rfl) (Nat.le_of_ble_eq_true rfl) dX1_join_2 ?_
  rw [nI_min (by omega) (by omega)]
  refine lv_istore_n (lv' := [(3, .int (nI (min x y))), (0, .ref k0), (1, .int (nI x)), (2, .int (nI y))]) hx hb dX1_join_5 rfl hl (by decide) rfl (fun ls hl => ?_)
  refine lv_iload_n hx hb dX1_join_6 rfl (lv_at hl 2 rfl) ?_
  refine lv_iload_n hx hb dX1_join_7 rfl (lv_at hl 3 rfl) ?_
  refine va_mmax hx hb (hml.trans hl.1.symm) hown (hts (.methodLink RX1 89 Lib.Math.max.name) (by decide +kernel)) (hts (.static Lib.Math.max.name) (by decide +kernel)) (hts (.initialized "java/lang/Math") (by decide +kernel)) (hts (.code Lib.Math.max.name Lib.Math.max.code 2 (some .int)) (by decide +kernel)) (Nat.le_of_ble_eq_true rfl) (Nat.le_of_ble_eq_true rfl) (Nat.le_of_ble_eq_true rfl) (Nat.le_of_ble_eq_true rfl) dX1_join_8 ?_
  rw [nI_max (by omega) (by omega)]
  refine lv_istore (lv' := [(4, .int (nI (max x y))), (3, .int (nI (min x y))), (0, .ref k0), (1, .int (nI x)), (2, .int (nI y))]) hx hb dX1_join_11 hl (by decide) rfl (fun ls hl => ?_)
  refine lv_iconst (v := nI 0) hx hb dX1_join_13 (by decide) ?_
  refine lv_istore (lv' := [(5, .int (nI 0)), (4, .int (nI (max x y))), (3, .int (nI (min x y))), (0, .ref k0), (1, .int (nI x)), (2, .int (nI y))]) hx hb dX1_join_14 hl (by decide) rfl (fun ls hl => ?_)
  have lp_16 : ∀ (fuel : Nat) (k : Nat), plc - k < fuel → (k ≤ plc) → ∀ (ws1 : va_W) (H : Heap) (locs : List Loc) (ls : Array Slot), Sm (fun k => k = 30) ws ws1 → ws1[21]? = some (k0, .inr (2, [.ref k1, .ref k4, .ref k7, .ref k8, .ref k9, .ref k10, .int (nI plc), .int (nI kn)])) → ws1[30]? = some (k9, .inl (cI, 48, .inl (fun jj => nI ((mrgP fa (max x y) (min x y) k) jj)))) → va_P D vwCl ws1 H → va_D A ws1 → va_S A s.heap H locs → lv_has ls 6 [(0, .ref k0), (1, .int (nI x)), (2, .int (nI y)), (3, .int (nI (min x y))), (4, .int (nI (max x y))), (5, .int (nI k))] → W p l e ({ frames := 1, cells := 0, slots := 0, locals := 21 }) s m ([.ref k0, .int (nI x), .int (nI y)] : List Value).toArray below meth c H locs 0 0 (ZV D (TY cB cI cJ cO) (fun ws' => Sm (fun k => k = 30) ws ws' ∧ ws'[30]? = some (k9, .inl (cI, 48, .inl (fun jj => nI ((mrgP fa (max x y) (min x y) plc) jj))))) below [.ref k0, .int (nI x), .int (nI y)] s 0 0 A) (F0 m 16 ls []) := by
    intro fuel
    induction fuel with
    | zero => intro k hfu; exact absurd hfu (Nat.not_lt_zero _)
    | succ fuel ih_16 =>
      intro k hfu_16 hk ws1 H locs ls sm g21 g30 hP hD hS hl
      refine lv_iload hx hb dX1_join_16 (lv_at hl 5 rfl) ?_
      refine lv_aload_n hx hb dX1_join_18 rfl (lv_at hl 0 rfl) ?_
      refine va_get (D := D) (ci := 2) (v := .int (nI plc)) (C := RX1) (T := TX1) (N := 8) hx hb hts hin_X1 hown hK hP 21 g21 rfl 6 (by decide) fl_42 (fun _ h9 => h9) rfl dX1_join_19 ?_
      refine nx_icmp_ge (tgt := 51) hx hb (by omega) (by omega) dX1_join_22 (by decide) (fun c_22 => ?_) (fun c_22 => ?_)
      · have g30 : ws1[30]? = some (k9, .inl (cI, 48, .inl (fun jj => nI ((mrgP fa (max x y) (min x y) plc) jj)))) := by rw [← show k = plc by omega]; exact g30
        exact CV.ret C hK hP hD hS (⟨sm, g30⟩) hc0 hs0 dX1_join_51
      · refine lv_aload_n hx hb dX1_join_25 rfl (lv_at hl 0 rfl) ?_
        refine va_get (D := D) (ci := 2) (v := .ref k9) (C := RX1) (T := TX1) (N := 8) hx hb hts hin_X1 hown hK hP 21 g21 rfl 4 (by decide) fl_28 (fun _ h9 => h9) rfl dX1_join_26 ?_
        refine lv_iload hx hb dX1_join_29 (lv_at hl 5 rfl) ?_
        refine nx_iald hx hb hK hP 30 1 g30 rfl (k := k) (by omega) (by decide) dX1_join_31 ?_
        refine lv_iload hx hb dX1_join_32 (lv_at hl 4 rfl) ?_
        refine nx_icmp_ne (tgt := 45) hx hb (by rw [mrgP_at]; have := hfa k (by omega); omega) (by omega) dX1_join_34 (by decide) (fun c_34 => ?_) (fun c_34 => ?_)
        · refine lv_iinc (v := (nI (k + 1))) (lv' := [(5, .int (nI (k + 1))), (0, .ref k0), (1, .int (nI x)), (2, .int (nI y)), (3, .int (nI (min x y))), (4, .int (nI (max x y)))]) hx hb dX1_join_45 hl (k := 5) rfl (nx_inc _ 1) (by decide) rfl (fun ls hl => ?_)
          refine lv_goto (tgt := 16) hx hb dX1_join_48 (by decide) ?_
          have g30 : ws1[30]? = some (k9, .inl (cI, 48, .inl (fun jj => nI ((mrgP fa (max x y) (min x y) (k + 1)) jj)))) := by rw [← mrgP_f (by rw [← mrgP_at (fa := fa) (hi := max x y) (lo := min x y) (i := k)]; exact c_34)]; exact g30
          exact ih_16 (k + 1) (by omega) (by omega) _ _ _ _ sm g21 g30 hP hD hS (lv_sub hl [1, 2, 3, 4, 5, 0] rfl)
        · refine lv_aload_n hx hb dX1_join_37 rfl (lv_at hl 0 rfl) ?_
          refine va_get (D := D) (ci := 2) (v := .ref k9) (C := RX1) (T := TX1) (N := 8) hx hb hts hin_X1 hown hK hP 21 g21 rfl 4 (by decide) fl_28 (fun _ h9 => h9) rfl dX1_join_38 ?_
          refine lv_iload hx hb dX1_join_41 (lv_at hl 5 rfl) ?_
          refine lv_iload_n hx hb dX1_join_43 rfl (lv_at hl 3 rfl) ?_
          refine nx_iastN hx hb hK hP hD hS 30 1 g30 rfl (k := k) (by omega) (by decide) dX1_join_44 (fun ws_1 H locs gq up_2 hP hD hS => ?_)
          have g30 : ws_1[30]? = some (k9, .inl (cI, 48, .inl (fun jj => nI ((va_up (mrgP fa (max x y) (min x y) k) k (min x y)) jj)))) := gq
          have g21 := up_2.get g21 (by decide)
          have sm := sm.up up_2 (by simp)
          refine lv_iinc (v := (nI (k + 1))) (lv' := [(5, .int (nI (k + 1))), (0, .ref k0), (1, .int (nI x)), (2, .int (nI y)), (3, .int (nI (min x y))), (4, .int (nI (max x y)))]) hx hb dX1_join_45 hl (k := 5) rfl (nx_inc _ 1) (by decide) rfl (fun ls hl => ?_)
          refine lv_goto (tgt := 16) hx hb dX1_join_48 (by decide) ?_
          have g30 : ws_1[30]? = some (k9, .inl (cI, 48, .inl (fun jj => nI ((mrgP fa (max x y) (min x y) (k + 1)) jj)))) := by rw [← mrgP_t (by rw [← mrgP_at (fa := fa) (hi := max x y) (lo := min x y) (i := k)]; exact c_34)]; exact g30
          exact ih_16 (k + 1) (by omega) (by omega) _ _ _ _ sm g21 g30 hP hD hS (lv_sub hl [1, 2, 3, 4, 5, 0] rfl)
  have g30 : ws[30]? = some (k9, .inl (cI, 48, .inl (fun jj => nI ((mrgP fa (max x y) (min x y) 0) jj)))) := by rw [mrgP_0]; exact g30
  exact lp_16 _ 0 (Nat.lt_succ_self _) (Nat.zero_le _) _ _ _ _ sm g21 g30 hP hD hS (lv_sub hl [3, 4, 5, 2, 1, 0] rfl)
set_option maxHeartbeats 4000000 in
set_option maxRecDepth 100000 in
theorem c_X1_familyOf {D : va_G} {cB cI cJ cO : ClassId} {l : Launch} {k0 : Nat} {k1 k4 k7 k8 k9 k10 plc kn : Nat} {nu fa : Nat → Nat} {q : Nat} {ws : va_W} (g21 : ws[21]? = some (k0, .inr (2, [.ref k1, .ref k4, .ref k7, .ref k8, .ref k9, .ref k10, .int (nI plc), .int (nI kn)]))) (g28 : ws[28]? = some (k7, .inl (cI, 48, .inl (fun jj => nI (nu jj))))) (g30 : ws[30]? = some (k9, .inl (cI, 48, .inl (fun jj => nI (fa jj))))) (hpl : plc ≤ 48) (hq : q < plc) (hfa : fa q < 48) : CI D (TY cB cI cJ cO) l yX1_familyOf wsX1_familyOf ({ frames := 0, cells := 0, slots := 0, locals := 0 }) [.ref k0, .int (nI q)] ws (fun r ws' => r = nI (nu (fa q)) ∧ ws = ws') := by
  refine CI.of (cc := cX1_familyOf) (maxL := 2) (ret := (some .int)) (by decide) rfl (Nat.le_of_ble_eq_true rfl) ?_
  intro p e s m below meth c A C hK hP hD hA hS ls hl
  obtain ⟨hx, hb, hr, hml, hts, hown, hlocks, hnm⟩ := id C
  have fl_21 := hts (.fieldLink RX1 21 "TwinFinder$Kin" "number" "[I") (by decide +kernel)
  have fl_28 := hts (.fieldLink RX1 28 "TwinFinder$Kin" "leader" "[I") (by decide +kernel)
  have fl_42 := hts (.fieldLink RX1 42 "TwinFinder$Kin" "places" "I") (by decide +kernel)
  have hin_X1 : ∀ w ∈ u_ws RX1 TX1 8, w ∈ wsX1_familyOf := by decide +kernel
  have hl : lv_has ls 2 [(0, .ref k0), (1, .int (nI q))] := hl
  have sm : Sm (fun _ => False) ws ws := Sm.rf
  have hc0 : (0 : Nat) ≤ 0 := by decide
  have hs0 : (0 : Nat) ≤ 0 := by decide
  refine lv_iload_n hx hb dX1_familyOf_0 rfl (lv_at hl 1 rfl) ?_
  refine nx_if_lt (tgt := 26) hx hb (by omega) dX1_familyOf_1 (by decide) ?_
  refine lv_iload_n hx hb dX1_familyOf_4 rfl (lv_at hl 1 rfl) ?_
  refine lv_aload_n hx hb dX1_familyOf_5 rfl (lv_at hl 0 rfl) ?_
  refine va_get (D := D) (ci := 2) (v := .int (nI plc)) (C := RX1) (T := TX1) (N := 8) hx hb hts hin_X1 hown hK hP 21 g21 rfl 6 (by decide) fl_42 (fun _ h9 => h9) rfl dX1_familyOf_6 ?_
  refine nx_icmp_ge (tgt := 26) hx hb (by omega) (by omega) dX1_familyOf_9 (by decide) (fun c_9 => ?_) (fun c_9 => ?_)
  · omega
  · refine lv_aload_n hx hb dX1_familyOf_12 rfl (lv_at hl 0 rfl) ?_
    refine va_get (D := D) (ci := 2) (v := .ref k7) (C := RX1) (T := TX1) (N := 8) hx hb hts hin_X1 hown hK hP 21 g21 rfl 2 (by decide) fl_21 (fun _ h9 => h9) rfl dX1_familyOf_13 ?_
    refine lv_aload_n hx hb dX1_familyOf_16 rfl (lv_at hl 0 rfl) ?_
    refine va_get (D := D) (ci := 2) (v := .ref k9) (C := RX1) (T := TX1) (N := 8) hx hb hts hin_X1 hown hK hP 21 g21 rfl 4 (by decide) fl_28 (fun _ h9 => h9) rfl dX1_familyOf_17 ?_
    refine lv_iload_n hx hb dX1_familyOf_20 rfl (lv_at hl 1 rfl) ?_
    refine nx_iald hx hb hK hP 30 1 g30 rfl (k := q) (by omega) (by decide) dX1_familyOf_21 ?_
    refine nx_iald hx hb hK hP 28 1 g28 rfl (k := (fa q)) (by omega) (by decide) dX1_familyOf_22 ?_
    refine lv_goto (tgt := 27) hx hb dX1_familyOf_23 (by decide) ?_
    exact CI.ret (v := (nI (nu (fa q)))) C hK hP hD hS rfl (⟨rfl, rfl⟩) hc0 hs0 dX1_familyOf_27
set_option maxHeartbeats 4000000 in
set_option maxRecDepth 100000 in
theorem c_X1_membersWith {D : va_G} {cB cI cJ cO : ClassId} {l : Launch} {k0 : Nat} {k1 k4 k7 k8 k9 k10 plc kn : Nat} {me fa : Nat → Nat} {q : Nat} {ws : va_W} (g21 : ws[21]? = some (k0, .inr (2, [.ref k1, .ref k4, .ref k7, .ref k8, .ref k9, .ref k10, .int (nI plc), .int (nI kn)]))) (g31 : ws[31]? = some (k10, .inl (cI, 48, .inl (fun jj => nI (me jj))))) (g30 : ws[30]? = some (k9, .inl (cI, 48, .inl (fun jj => nI (fa jj))))) (hpl : plc ≤ 48) (hq : q < plc) (hfa : fa q < 48) : CI D (TY cB cI cJ cO) l yX1_membersWith wsX1_membersWith ({ frames := 0, cells := 0, slots := 0, locals := 0 }) [.ref k0, .int (nI q)] ws (fun r ws' => r = nI (me (fa q)) ∧ ws = ws') := by
  refine CI.of (cc := cX1_membersWith) (maxL := 2) (ret := (some .int)) (by decide) rfl (Nat.le_of_ble_eq_true rfl) ?_
  intro p e s m below meth c A C hK hP hD hA hS ls hl
  obtain ⟨hx, hb, hr, hml, hts, hown, hlocks, hnm⟩ := id C
  have fl_28 := hts (.fieldLink RX1 28 "TwinFinder$Kin" "leader" "[I") (by decide +kernel)
  have fl_31 := hts (.fieldLink RX1 31 "TwinFinder$Kin" "members" "[I") (by decide +kernel)
  have fl_42 := hts (.fieldLink RX1 42 "TwinFinder$Kin" "places" "I") (by decide +kernel)
  have hin_X1 : ∀ w ∈ u_ws RX1 TX1 8, w ∈ wsX1_membersWith := by decide +kernel
  have hl : lv_has ls 2 [(0, .ref k0), (1, .int (nI q))] := hl
  have sm : Sm (fun _ => False) ws ws := Sm.rf
  have hc0 : (0 : Nat) ≤ 0 := by decide
  have hs0 : (0 : Nat) ≤ 0 := by decide
  refine lv_iload_n hx hb dX1_membersWith_0 rfl (lv_at hl 1 rfl) ?_
  refine nx_if_lt (tgt := 26) hx hb (by omega) dX1_membersWith_1 (by decide) ?_
  refine lv_iload_n hx hb dX1_membersWith_4 rfl (lv_at hl 1 rfl) ?_
  refine lv_aload_n hx hb dX1_membersWith_5 rfl (lv_at hl 0 rfl) ?_
  refine va_get (D := D) (ci := 2) (v := .int (nI plc)) (C := RX1) (T := TX1) (N := 8) hx hb hts hin_X1 hown hK hP 21 g21 rfl 6 (by decide) fl_42 (fun _ h9 => h9) rfl dX1_membersWith_6 ?_
  refine nx_icmp_ge (tgt := 26) hx hb (by omega) (by omega) dX1_membersWith_9 (by decide) (fun c_9 => ?_) (fun c_9 => ?_)
  · omega
  · refine lv_aload_n hx hb dX1_membersWith_12 rfl (lv_at hl 0 rfl) ?_
    refine va_get (D := D) (ci := 2) (v := .ref k10) (C := RX1) (T := TX1) (N := 8) hx hb hts hin_X1 hown hK hP 21 g21 rfl 5 (by decide) fl_31 (fun _ h9 => h9) rfl dX1_membersWith_13 ?_
    refine lv_aload_n hx hb dX1_membersWith_16 rfl (lv_at hl 0 rfl) ?_
    refine va_get (D := D) (ci := 2) (v := .ref k9) (C := RX1) (T := TX1) (N := 8) hx hb hts hin_X1 hown hK hP 21 g21 rfl 4 (by decide) fl_28 (fun _ h9 => h9) rfl dX1_membersWith_17 ?_
    refine lv_iload_n hx hb dX1_membersWith_20 rfl (lv_at hl 1 rfl) ?_
    refine nx_iald hx hb hK hP 30 1 g30 rfl (k := q) (by omega) (by decide) dX1_membersWith_21 ?_
    refine nx_iald hx hb hK hP 31 1 g31 rfl (k := (fa q)) (by omega) (by decide) dX1_membersWith_22 ?_
    refine lv_goto (tgt := 27) hx hb dX1_membersWith_23 (by decide) ?_
    exact CI.ret (v := (nI (me (fa q)))) C hK hP hD hS rfl (⟨rfl, rfl⟩) hc0 hs0 dX1_membersWith_27
set_option maxHeartbeats 4000000 in
set_option maxRecDepth 100000 in
theorem c_X1_twinsOf {D : va_G} {cB cI cJ cO : ClassId} {l : Launch} {k0 : Nat} {k1 k4 k7 k8 k9 k10 plc kn : Nat} {tc : Nat → Nat} {q : Nat} {ws : va_W} (g21 : ws[21]? = some (k0, .inr (2, [.ref k1, .ref k4, .ref k7, .ref k8, .ref k9, .ref k10, .int (nI plc), .int (nI kn)]))) (g29 : ws[29]? = some (k8, .inl (cI, 48, .inl (fun jj => nI (tc jj))))) (hpl : plc ≤ 48) (hq : q < plc) : CI D (TY cB cI cJ cO) l yX1_twinsOf wsX1_twinsOf ({ frames := 0, cells := 0, slots := 0, locals := 0 }) [.ref k0, .int (nI q)] ws (fun r ws' => r = nI (tc q) ∧ ws = ws') := by
  refine CI.of (cc := cX1_twinsOf) (maxL := 2) (ret := (some .int)) (by decide) rfl (Nat.le_of_ble_eq_true rfl) ?_
  intro p e s m below meth c A C hK hP hD hA hS ls hl
  obtain ⟨hx, hb, hr, hml, hts, hown, hlocks, hnm⟩ := id C
  have fl_25 := hts (.fieldLink RX1 25 "TwinFinder$Kin" "twinCount" "[I") (by decide +kernel)
  have fl_42 := hts (.fieldLink RX1 42 "TwinFinder$Kin" "places" "I") (by decide +kernel)
  have hin_X1 : ∀ w ∈ u_ws RX1 TX1 8, w ∈ wsX1_twinsOf := by decide +kernel
  have hl : lv_has ls 2 [(0, .ref k0), (1, .int (nI q))] := hl
  have sm : Sm (fun _ => False) ws ws := Sm.rf
  have hc0 : (0 : Nat) ≤ 0 := by decide
  have hs0 : (0 : Nat) ≤ 0 := by decide
  refine lv_iload_n hx hb dX1_twinsOf_0 rfl (lv_at hl 1 rfl) ?_
  refine nx_if_lt (tgt := 21) hx hb (by omega) dX1_twinsOf_1 (by decide) ?_
  refine lv_iload_n hx hb dX1_twinsOf_4 rfl (lv_at hl 1 rfl) ?_
  refine lv_aload_n hx hb dX1_twinsOf_5 rfl (lv_at hl 0 rfl) ?_
  refine va_get (D := D) (ci := 2) (v := .int (nI plc)) (C := RX1) (T := TX1) (N := 8) hx hb hts hin_X1 hown hK hP 21 g21 rfl 6 (by decide) fl_42 (fun _ h9 => h9) rfl dX1_twinsOf_6 ?_
  refine nx_icmp_ge (tgt := 21) hx hb (by omega) (by omega) dX1_twinsOf_9 (by decide) (fun c_9 => ?_) (fun c_9 => ?_)
  · omega
  · refine lv_aload_n hx hb dX1_twinsOf_12 rfl (lv_at hl 0 rfl) ?_
    refine va_get (D := D) (ci := 2) (v := .ref k8) (C := RX1) (T := TX1) (N := 8) hx hb hts hin_X1 hown hK hP 21 g21 rfl 3 (by decide) fl_25 (fun _ h9 => h9) rfl dX1_twinsOf_13 ?_
    refine lv_iload_n hx hb dX1_twinsOf_16 rfl (lv_at hl 1 rfl) ?_
    refine nx_iald hx hb hK hP 29 1 g29 rfl (k := q) (by omega) (by decide) dX1_twinsOf_17 ?_
    refine lv_goto (tgt := 22) hx hb dX1_twinsOf_18 (by decide) ?_
    exact CI.ret (v := (nI (tc q))) C hK hP hD hS rfl (⟨rfl, rfl⟩) hc0 hs0 dX1_twinsOf_22
set_option maxHeartbeats 4000000 in
set_option maxRecDepth 100000 in
theorem c_X1_families {D : va_G} {cB cI cJ cO : ClassId} {l : Launch} {k0 : Nat} {k1 k4 k7 k8 k9 k10 plc kn : Nat} {me : Nat → Nat} {al_ : Nat} {ws : va_W} (g21 : ws[21]? = some (k0, .inr (2, [.ref k1, .ref k4, .ref k7, .ref k8, .ref k9, .ref k10, .int (nI plc), .int (nI kn)]))) (g31 : ws[31]? = some (k10, .inl (cI, 48, .inl (fun jj => nI (me jj))))) (hpl : plc ≤ 48) (hal : al_ ≤ 48) (hme : ∀ k, k < plc → me k ≤ 48) : CI D (TY cB cI cJ cO) l yX1_families wsX1_families ({ frames := 0, cells := 0, slots := 0, locals := 0 }) [.ref k0, .int (nI al_)] ws (fun r ws' => r = nI ((selL (fun k => decide (al_ ≤ me k)) plc).length) ∧ ws = ws') := by
  refine CI.of (cc := cX1_families) (maxL := 4) (ret := (some .int)) (by decide) rfl (Nat.le_of_ble_eq_true rfl) ?_
  intro p e s m below meth c A C hK hP hD hA hS ls hl
  obtain ⟨hx, hb, hr, hml, hts, hown, hlocks, hnm⟩ := id C
  have fl_31 := hts (.fieldLink RX1 31 "TwinFinder$Kin" "members" "[I") (by decide +kernel)
  have fl_42 := hts (.fieldLink RX1 42 "TwinFinder$Kin" "places" "I") (by decide +kernel)
  have hin_X1 : ∀ w ∈ u_ws RX1 TX1 8, w ∈ wsX1_families := by decide +kernel
  have hl : lv_has ls 4 [(0, .ref k0), (1, .int (nI al_))] := hl
  have sm : Sm (fun _ => False) ws ws := Sm.rf
  have hc0 : (0 : Nat) ≤ 0 := by decide
  have hs0 : (0 : Nat) ≤ 0 := by decide
  refine lv_iconst (v := nI 0) hx hb dX1_families_0 (by decide) ?_
  refine lv_istore_n (lv' := [(2, .int (nI 0)), (0, .ref k0), (1, .int (nI al_))]) hx hb dX1_families_1 rfl hl (by decide) rfl (fun ls hl => ?_)
  refine lv_iconst (v := nI 0) hx hb dX1_families_2 (by decide) ?_
  refine lv_istore_n (lv' := [(3, .int (nI 0)), (2, .int (nI 0)), (0, .ref k0), (1, .int (nI al_))]) hx hb dX1_families_3 rfl hl (by decide) rfl (fun ls hl => ?_)
  have lp_4 : ∀ (fuel : Nat) (k : Nat), plc - k < fuel → (k ≤ plc) → ∀ (H : Heap) (locs : List Loc) (ls : Array Slot),  va_P D vwCl ws H → va_D A ws → va_S A s.heap H locs → lv_has ls 4 [(0, .ref k0), (1, .int (nI al_)), (2, .int (nI ((selL (fun k => decide (al_ ≤ me k)) k).length))), (3, .int (nI k))] → W p l e ({ frames := 0, cells := 0, slots := 0, locals := 0 }) s m ([.ref k0, .int (nI al_)] : List Value).toArray below meth c H locs 0 0 (ZI D (TY cB cI cJ cO) (fun r ws' => r = nI ((selL (fun k => decide (al_ ≤ me k)) plc).length) ∧ ws = ws') below [.ref k0, .int (nI al_)] s 0 0 A) (F0 m 4 ls []) := by
    intro fuel
    induction fuel with
    | zero => intro k hfu; exact absurd hfu (Nat.not_lt_zero _)
    | succ fuel ih_4 =>
      intro k hfu_4 hk H locs ls hP hD hS hl
      refine lv_iload_n hx hb dX1_families_4 rfl (lv_at hl 3 rfl) ?_
      refine lv_aload_n hx hb dX1_families_5 rfl (lv_at hl 0 rfl) ?_
      refine va_get (D := D) (ci := 2) (v := .int (nI plc)) (C := RX1) (T := TX1) (N := 8) hx hb hts hin_X1 hown hK hP 21 g21 rfl 6 (by decide) fl_42 (fun _ h9 => h9) rfl dX1_families_6 ?_
      refine nx_icmp_ge (tgt := 31) hx hb (by omega) (by omega) dX1_families_9 (by decide) (fun c_9 => ?_) (fun c_9 => ?_)
      · refine lv_iload_n hx hb dX1_families_31 rfl (lv_at hl 2 rfl) ?_
        exact CI.ret (v := (nI ((selL (fun k => decide (al_ ≤ me k)) k).length))) C hK hP hD hS rfl (⟨(by rw [show k = plc by omega]), rfl⟩) hc0 hs0 dX1_families_32
      · refine lv_aload_n hx hb dX1_families_12 rfl (lv_at hl 0 rfl) ?_
        refine va_get (D := D) (ci := 2) (v := .ref k10) (C := RX1) (T := TX1) (N := 8) hx hb hts hin_X1 hown hK hP 21 g21 rfl 5 (by decide) fl_31 (fun _ h9 => h9) rfl dX1_families_13 ?_
        refine lv_iload_n hx hb dX1_families_16 rfl (lv_at hl 3 rfl) ?_
        refine nx_iald hx hb hK hP 31 1 g31 rfl (k := k) (by omega) (by decide) dX1_families_17 ?_
        refine lv_iload_n hx hb dX1_families_18 rfl (lv_at hl 1 rfl) ?_
        refine nx_icmp_lt (tgt := 25) hx hb (by have := hme k (by omega); omega) (by omega) dX1_families_19 (by decide) (fun c_19 => ?_) (fun c_19 => ?_)
        · refine lv_iinc (v := (nI (k + 1))) (lv' := [(3, .int (nI (k + 1))), (0, .ref k0), (1, .int (nI al_)), (2, .int (nI ((selL (fun k => decide (al_ ≤ me k)) k).length)))]) hx hb dX1_families_25 hl (k := 3) rfl (nx_inc _ 1) (by decide) rfl (fun ls hl => ?_)
          refine lv_goto (tgt := 4) hx hb dX1_families_28 (by decide) ?_
          have hl : lv_has ls 4 [(3, .int (nI (k + 1))), (0, .ref k0), (1, .int (nI al_)), (2, .int (nI ((selL (fun k => decide (al_ ≤ me k)) (k + 1)).length)))] := by rw [← show (selL (fun k => decide (al_ ≤ me k)) k).length = (selL (fun k => decide (al_ ≤ me k)) (k + 1)).length from (by rw [selL_f (g := fun k => decide (al_ ≤ me k)) (m := k) (decide_eq_false (by omega))])]; exact hl
          exact ih_4 (k + 1) (by omega) (by omega) _ _ _  hP hD hS (lv_sub hl [1, 2, 3, 0] rfl)
        · refine lv_iinc (v := (nI (((selL (fun k => decide (al_ ≤ me k)) k).length) + 1))) (lv' := [(2, .int (nI (((selL (fun k => decide (al_ ≤ me k)) k).length) + 1))), (0, .ref k0), (1, .int (nI al_)), (3, .int (nI k))]) hx hb dX1_families_22 hl (k := 2) rfl (nx_inc _ 1) (by decide) rfl (fun ls hl => ?_)
          refine lv_iinc (v := (nI (k + 1))) (lv' := [(3, .int (nI (k + 1))), (2, .int (nI (((selL (fun k => decide (al_ ≤ me k)) k).length) + 1))), (0, .ref k0), (1, .int (nI al_))]) hx hb dX1_families_25 hl (k := 3) rfl (nx_inc _ 1) (by decide) rfl (fun ls hl => ?_)
          refine lv_goto (tgt := 4) hx hb dX1_families_28 (by decide) ?_
          have hl : lv_has ls 4 [(3, .int (nI (k + 1))), (2, .int (nI ((selL (fun k => decide (al_ ≤ me k)) (k + 1)).length))), (0, .ref k0), (1, .int (nI al_))] := by rw [← show ((selL (fun k => decide (al_ ≤ me k)) k).length) + 1 = (selL (fun k => decide (al_ ≤ me k)) (k + 1)).length from (by rw [selL_t (g := fun k => decide (al_ ≤ me k)) (m := k) (decide_eq_true (by omega)), List.length_append]; rfl)]; exact hl
          exact ih_4 (k + 1) (by omega) (by omega) _ _ _  hP hD hS (lv_sub hl [2, 3, 1, 0] rfl)
  exact lp_4 _ 0 (Nat.lt_succ_self _) (Nat.zero_le _) _ _ _  hP hD hS (lv_sub hl [2, 3, 1, 0] rfl)
set_option maxHeartbeats 4000000 in
set_option maxRecDepth 100000 in
theorem c_X1_familyAt {D : va_G} {cB cI cJ cO : ClassId} {l : Launch} {k0 : Nat} {k1 k4 k7 k8 k9 k10 plc kn : Nat} {nu me : Nat → Nat} {ii : Int32} {al_ : Nat} {ws : va_W} (g21 : ws[21]? = some (k0, .inr (2, [.ref k1, .ref k4, .ref k7, .ref k8, .ref k9, .ref k10, .int (nI plc), .int (nI kn)]))) (g28 : ws[28]? = some (k7, .inl (cI, 48, .inl (fun jj => nI (nu jj))))) (g31 : ws[31]? = some (k10, .inl (cI, 48, .inl (fun jj => nI (me jj))))) (hpl : plc ≤ 48) (hal : al_ ≤ 48) (hme : ∀ k, k < plc → me k ≤ 48) : CI D (TY cB cI cJ cO) l yX1_familyAt wsX1_familyAt ({ frames := 0, cells := 0, slots := 0, locals := 0 }) [.ref k0, .int ii, .int (nI al_)] ws (fun r ws' => r = faR nu (fun k => decide (al_ ≤ me k)) plc ii ∧ ws = ws') := by
  refine CI.of (cc := cX1_familyAt) (maxL := 5) (ret := (some .int)) (by decide) rfl (Nat.le_of_ble_eq_true rfl) ?_
  intro p e s m below meth c A C hK hP hD hA hS ls hl
  obtain ⟨hx, hb, hr, hml, hts, hown, hlocks, hnm⟩ := id C
  have fl_21 := hts (.fieldLink RX1 21 "TwinFinder$Kin" "number" "[I") (by decide +kernel)
  have fl_31 := hts (.fieldLink RX1 31 "TwinFinder$Kin" "members" "[I") (by decide +kernel)
  have fl_42 := hts (.fieldLink RX1 42 "TwinFinder$Kin" "places" "I") (by decide +kernel)
  have hin_X1 : ∀ w ∈ u_ws RX1 TX1 8, w ∈ wsX1_familyAt := by decide +kernel
  have hl : lv_has ls 5 [(0, .ref k0), (1, .int ii), (2, .int (nI al_))] := hl
  have sm : Sm (fun _ => False) ws ws := Sm.rf
  have hc0 : (0 : Nat) ≤ 0 := by decide
  have hs0 : (0 : Nat) ≤ 0 := by decide
  rcases neg_or ii with hneg | ⟨i1, hi1, rfl⟩
  · have hq0 := hneg
    refine lv_iconst (v := nI 0) hx hb dX1_familyAt_0 (by decide) ?_
    refine lv_istore_n (lv' := [(3, .int (nI 0)), (0, .ref k0), (1, .int ii), (2, .int (nI al_))]) hx hb dX1_familyAt_1 rfl hl (by decide) rfl (fun ls hl => ?_)
    refine lv_iconst (v := nI 0) hx hb dX1_familyAt_2 (by decide) ?_
    refine lv_istore (lv' := [(4, .int (nI 0)), (3, .int (nI 0)), (0, .ref k0), (1, .int ii), (2, .int (nI al_))]) hx hb dX1_familyAt_3 hl (by decide) rfl (fun ls hl => ?_)
    have lp_5 : ∀ (fuel : Nat) (k : Nat), plc - k < fuel → (k ≤ plc) → ∀ (H : Heap) (locs : List Loc) (ls : Array Slot),  va_P D vwCl ws H → va_D A ws → va_S A s.heap H locs → lv_has ls 5 [(0, .ref k0), (1, .int ii), (2, .int (nI al_)), (3, .int (nI ((selL (fun k => decide (al_ ≤ me k)) k).length))), (4, .int (nI k))] → W p l e ({ frames := 0, cells := 0, slots := 0, locals := 0 }) s m ([.ref k0, .int ii, .int (nI al_)] : List Value).toArray below meth c H locs 0 0 (ZI D (TY cB cI cJ cO) (fun r ws' => r = faR nu (fun k => decide (al_ ≤ me k)) plc ii ∧ ws = ws') below [.ref k0, .int ii, .int (nI al_)] s 0 0 A) (F0 m 5 ls []) := by
      intro fuel
      induction fuel with
      | zero => intro k hfu; exact absurd hfu (Nat.not_lt_zero _)
      | succ fuel ih_5 =>
        intro k hfu_5 hk H locs ls hP hD hS hl
        refine lv_iload hx hb dX1_familyAt_5 (lv_at hl 4 rfl) ?_
        refine lv_aload_n hx hb dX1_familyAt_7 rfl (lv_at hl 0 rfl) ?_
        refine va_get (D := D) (ci := 2) (v := .int (nI plc)) (C := RX1) (T := TX1) (N := 8) hx hb hts hin_X1 hown hK hP 21 g21 rfl 6 (by decide) fl_42 (fun _ h9 => h9) rfl dX1_familyAt_8 ?_
        refine nx_icmp_ge (tgt := 47) hx hb (by omega) (by omega) dX1_familyAt_11 (by decide) (fun c_11 => ?_) (fun c_11 => ?_)
        · refine lv_iconst (v := -1) hx hb dX1_familyAt_47 (by decide) ?_
          exact CI.ret (v := (-1)) C hK hP hD hS rfl (⟨(by rw [faR_neg hneg]), rfl⟩) hc0 hs0 dX1_familyAt_48
        · have hsll := selL_len (fun k => decide (al_ ≤ me k)) k
          refine lv_aload_n hx hb dX1_familyAt_14 rfl (lv_at hl 0 rfl) ?_
          refine va_get (D := D) (ci := 2) (v := .ref k10) (C := RX1) (T := TX1) (N := 8) hx hb hts hin_X1 hown hK hP 21 g21 rfl 5 (by decide) fl_31 (fun _ h9 => h9) rfl dX1_familyAt_15 ?_
          refine lv_iload hx hb dX1_familyAt_18 (lv_at hl 4 rfl) ?_
          refine nx_iald hx hb hK hP 31 1 g31 rfl (k := k) (by omega) (by decide) dX1_familyAt_20 ?_
          refine lv_iload_n hx hb dX1_familyAt_21 rfl (lv_at hl 2 rfl) ?_
          refine nx_icmp_lt (tgt := 41) hx hb (by have := hme k (by omega); omega) (by omega) dX1_familyAt_22 (by decide) (fun c_22 => ?_) (fun c_22 => ?_)
          · refine lv_iinc (v := (nI (k + 1))) (lv' := [(4, .int (nI (k + 1))), (0, .ref k0), (1, .int ii), (2, .int (nI al_)), (3, .int (nI ((selL (fun k => decide (al_ ≤ me k)) k).length)))]) hx hb dX1_familyAt_41 hl (k := 4) rfl (nx_inc _ 1) (by decide) rfl (fun ls hl => ?_)
            refine lv_goto (tgt := 5) hx hb dX1_familyAt_44 (by decide) ?_
            have hsl2 : (selL (fun k => decide (al_ ≤ me k)) (k + 1)).length = (selL (fun k => decide (al_ ≤ me k)) k).length + 0 := by rw [selL_f (g := fun k => decide (al_ ≤ me k)) (m := k) (decide_eq_false (by omega))]; rfl
            have hl : lv_has ls 5 [(4, .int (nI (k + 1))), (0, .ref k0), (1, .int ii), (2, .int (nI al_)), (3, .int (nI ((selL (fun k => decide (al_ ≤ me k)) (k + 1)).length)))] := by rw [← show (selL (fun k => decide (al_ ≤ me k)) k).length = (selL (fun k => decide (al_ ≤ me k)) (k + 1)).length from (by omega)]; exact hl
            exact ih_5 (k + 1) (by omega) (by omega) _ _ _  hP hD hS (lv_sub hl [1, 2, 3, 4, 0] rfl)
          · refine lv_iload_n hx hb dX1_familyAt_25 rfl (lv_at hl 3 rfl) ?_
            refine lv_iload_n hx hb dX1_familyAt_26 rfl (lv_at hl 1 rfl) ?_
            refine lv_icmp_ne (tgt := 38) hx hb dX1_familyAt_27 (by decide) (fun c_27 => ?_) (fun c_27 => ?_)
            · refine lv_iinc (v := (nI (((selL (fun k => decide (al_ ≤ me k)) k).length) + 1))) (lv' := [(3, .int (nI (((selL (fun k => decide (al_ ≤ me k)) k).length) + 1))), (0, .ref k0), (1, .int ii), (2, .int (nI al_)), (4, .int (nI k))]) hx hb dX1_familyAt_38 hl (k := 3) rfl (nx_inc _ 1) (by decide) rfl (fun ls hl => ?_)
              refine lv_iinc (v := (nI (k + 1))) (lv' := [(4, .int (nI (k + 1))), (3, .int (nI (((selL (fun k => decide (al_ ≤ me k)) k).length) + 1))), (0, .ref k0), (1, .int ii), (2, .int (nI al_))]) hx hb dX1_familyAt_41 hl (k := 4) rfl (nx_inc _ 1) (by decide) rfl (fun ls hl => ?_)
              refine lv_goto (tgt := 5) hx hb dX1_familyAt_44 (by decide) ?_
              have hsl2 : (selL (fun k => decide (al_ ≤ me k)) (k + 1)).length = (selL (fun k => decide (al_ ≤ me k)) k).length + 1 := by rw [selL_t (g := fun k => decide (al_ ≤ me k)) (m := k) (decide_eq_true (by omega)), List.length_append]; rfl
              have hl : lv_has ls 5 [(4, .int (nI (k + 1))), (3, .int (nI ((selL (fun k => decide (al_ ≤ me k)) (k + 1)).length))), (0, .ref k0), (1, .int ii), (2, .int (nI al_))] := by rw [← show ((selL (fun k => decide (al_ ≤ me k)) k).length) + 1 = (selL (fun k => decide (al_ ≤ me k)) (k + 1)).length from (by omega)]; exact hl
              exact ih_5 (k + 1) (by omega) (by omega) _ _ _  hP hD hS (lv_sub hl [2, 3, 4, 1, 0] rfl)
            · exact absurd (by rw [c_27]; exact hneg) (nI_pos (n := (selL (fun k => decide (al_ ≤ me k)) k).length) (by omega))
    exact lp_5 _ 0 (Nat.lt_succ_self _) (Nat.zero_le _) _ _ _  hP hD hS (lv_sub hl [2, 3, 4, 1, 0] rfl)
  · have hq0 := hi1
    refine lv_iconst (v := nI 0) hx hb dX1_familyAt_0 (by decide) ?_
    refine lv_istore_n (lv' := [(3, .int (nI 0)), (0, .ref k0), (1, .int (nI i1)), (2, .int (nI al_))]) hx hb dX1_familyAt_1 rfl hl (by decide) rfl (fun ls hl => ?_)
    refine lv_iconst (v := nI 0) hx hb dX1_familyAt_2 (by decide) ?_
    refine lv_istore (lv' := [(4, .int (nI 0)), (3, .int (nI 0)), (0, .ref k0), (1, .int (nI i1)), (2, .int (nI al_))]) hx hb dX1_familyAt_3 hl (by decide) rfl (fun ls hl => ?_)
    have lp_5 : ∀ (fuel : Nat) (k : Nat), plc - k < fuel → (k ≤ plc) → ((selL (fun k => decide (al_ ≤ me k)) k).length ≤ i1) → ∀ (H : Heap) (locs : List Loc) (ls : Array Slot),  va_P D vwCl ws H → va_D A ws → va_S A s.heap H locs → lv_has ls 5 [(0, .ref k0), (1, .int (nI i1)), (2, .int (nI al_)), (3, .int (nI ((selL (fun k => decide (al_ ≤ me k)) k).length))), (4, .int (nI k))] → W p l e ({ frames := 0, cells := 0, slots := 0, locals := 0 }) s m ([.ref k0, .int (nI i1), .int (nI al_)] : List Value).toArray below meth c H locs 0 0 (ZI D (TY cB cI cJ cO) (fun r ws' => r = faR nu (fun k => decide (al_ ≤ me k)) plc (nI i1) ∧ ws = ws') below [.ref k0, .int (nI i1), .int (nI al_)] s 0 0 A) (F0 m 5 ls []) := by
      intro fuel
      induction fuel with
      | zero => intro k hfu; exact absurd hfu (Nat.not_lt_zero _)
      | succ fuel ih_5 =>
        intro k hfu_5 hk hle H locs ls hP hD hS hl
        refine lv_iload hx hb dX1_familyAt_5 (lv_at hl 4 rfl) ?_
        refine lv_aload_n hx hb dX1_familyAt_7 rfl (lv_at hl 0 rfl) ?_
        refine va_get (D := D) (ci := 2) (v := .int (nI plc)) (C := RX1) (T := TX1) (N := 8) hx hb hts hin_X1 hown hK hP 21 g21 rfl 6 (by decide) fl_42 (fun _ h9 => h9) rfl dX1_familyAt_8 ?_
        refine nx_icmp_ge (tgt := 47) hx hb (by omega) (by omega) dX1_familyAt_11 (by decide) (fun c_11 => ?_) (fun c_11 => ?_)
        · refine lv_iconst (v := -1) hx hb dX1_familyAt_47 (by decide) ?_
          exact CI.ret (v := (-1)) C hK hP hD hS rfl (⟨(by rw [faR_none hi1 (by rw [← show k = plc by omega]; exact hle)]), rfl⟩) hc0 hs0 dX1_familyAt_48
        · have hsll := selL_len (fun k => decide (al_ ≤ me k)) k
          refine lv_aload_n hx hb dX1_familyAt_14 rfl (lv_at hl 0 rfl) ?_
          refine va_get (D := D) (ci := 2) (v := .ref k10) (C := RX1) (T := TX1) (N := 8) hx hb hts hin_X1 hown hK hP 21 g21 rfl 5 (by decide) fl_31 (fun _ h9 => h9) rfl dX1_familyAt_15 ?_
          refine lv_iload hx hb dX1_familyAt_18 (lv_at hl 4 rfl) ?_
          refine nx_iald hx hb hK hP 31 1 g31 rfl (k := k) (by omega) (by decide) dX1_familyAt_20 ?_
          refine lv_iload_n hx hb dX1_familyAt_21 rfl (lv_at hl 2 rfl) ?_
          refine nx_icmp_lt (tgt := 41) hx hb (by have := hme k (by omega); omega) (by omega) dX1_familyAt_22 (by decide) (fun c_22 => ?_) (fun c_22 => ?_)
          · refine lv_iinc (v := (nI (k + 1))) (lv' := [(4, .int (nI (k + 1))), (0, .ref k0), (1, .int (nI i1)), (2, .int (nI al_)), (3, .int (nI ((selL (fun k => decide (al_ ≤ me k)) k).length)))]) hx hb dX1_familyAt_41 hl (k := 4) rfl (nx_inc _ 1) (by decide) rfl (fun ls hl => ?_)
            refine lv_goto (tgt := 5) hx hb dX1_familyAt_44 (by decide) ?_
            have hsl2 : (selL (fun k => decide (al_ ≤ me k)) (k + 1)).length = (selL (fun k => decide (al_ ≤ me k)) k).length + 0 := by rw [selL_f (g := fun k => decide (al_ ≤ me k)) (m := k) (decide_eq_false (by omega))]; rfl
            have hl : lv_has ls 5 [(4, .int (nI (k + 1))), (0, .ref k0), (1, .int (nI i1)), (2, .int (nI al_)), (3, .int (nI ((selL (fun k => decide (al_ ≤ me k)) (k + 1)).length)))] := by rw [← show (selL (fun k => decide (al_ ≤ me k)) k).length = (selL (fun k => decide (al_ ≤ me k)) (k + 1)).length from (by omega)]; exact hl
            exact ih_5 (k + 1) (by omega) (by omega) (by rw [hsl2]; omega) _ _ _  hP hD hS (lv_sub hl [1, 2, 3, 4, 0] rfl)
          · refine lv_iload_n hx hb dX1_familyAt_25 rfl (lv_at hl 3 rfl) ?_
            refine lv_iload_n hx hb dX1_familyAt_26 rfl (lv_at hl 1 rfl) ?_
            refine nx_icmp_ne (tgt := 38) hx hb (by omega) (by omega) dX1_familyAt_27 (by decide) (fun c_27 => ?_) (fun c_27 => ?_)
            · refine lv_iinc (v := (nI (((selL (fun k => decide (al_ ≤ me k)) k).length) + 1))) (lv' := [(3, .int (nI (((selL (fun k => decide (al_ ≤ me k)) k).length) + 1))), (0, .ref k0), (1, .int (nI i1)), (2, .int (nI al_)), (4, .int (nI k))]) hx hb dX1_familyAt_38 hl (k := 3) rfl (nx_inc _ 1) (by decide) rfl (fun ls hl => ?_)
              refine lv_iinc (v := (nI (k + 1))) (lv' := [(4, .int (nI (k + 1))), (3, .int (nI (((selL (fun k => decide (al_ ≤ me k)) k).length) + 1))), (0, .ref k0), (1, .int (nI i1)), (2, .int (nI al_))]) hx hb dX1_familyAt_41 hl (k := 4) rfl (nx_inc _ 1) (by decide) rfl (fun ls hl => ?_)
              refine lv_goto (tgt := 5) hx hb dX1_familyAt_44 (by decide) ?_
              have hsl2 : (selL (fun k => decide (al_ ≤ me k)) (k + 1)).length = (selL (fun k => decide (al_ ≤ me k)) k).length + 1 := by rw [selL_t (g := fun k => decide (al_ ≤ me k)) (m := k) (decide_eq_true (by omega)), List.length_append]; rfl
              have hl : lv_has ls 5 [(4, .int (nI (k + 1))), (3, .int (nI ((selL (fun k => decide (al_ ≤ me k)) (k + 1)).length))), (0, .ref k0), (1, .int (nI i1)), (2, .int (nI al_))] := by rw [← show ((selL (fun k => decide (al_ ≤ me k)) k).length) + 1 = (selL (fun k => decide (al_ ≤ me k)) (k + 1)).length from (by omega)]; exact hl
              exact ih_5 (k + 1) (by omega) (by omega) (by rw [hsl2]; omega) _ _ _  hP hD hS (lv_sub hl [2, 3, 4, 1, 0] rfl)
            · refine lv_aload_n hx hb dX1_familyAt_30 rfl (lv_at hl 0 rfl) ?_
              refine va_get (D := D) (ci := 2) (v := .ref k7) (C := RX1) (T := TX1) (N := 8) hx hb hts hin_X1 hown hK hP 21 g21 rfl 2 (by decide) fl_21 (fun _ h9 => h9) rfl dX1_familyAt_31 ?_
              refine lv_iload hx hb dX1_familyAt_34 (lv_at hl 4 rfl) ?_
              refine nx_iald hx hb hK hP 28 1 g28 rfl (k := k) (by omega) (by decide) dX1_familyAt_36 ?_
              exact CI.ret (v := (nI (nu k))) C hK hP hD hS rfl (⟨(by rw [faR_at hi1 (x := k) (by omega) (decide_eq_true (by omega)) (by omega)]), rfl⟩) hc0 hs0 dX1_familyAt_37
    exact lp_5 _ 0 (Nat.lt_succ_self _) (Nat.zero_le _) (Nat.zero_le _) _ _ _  hP hD hS (lv_sub hl [2, 3, 4, 1, 0] rfl)
