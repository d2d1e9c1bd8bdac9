set_option maxHeartbeats 4000000 in
set_option maxRecDepth 100000 in
theorem c_X6_forgetFrom {D : va_G} {cB cI cJ cO : ClassId} {l : Launch} {t0 t1 t2 t3 t4 nm : Nat} {lf : Nat → Int32} {bf sf se : Nat → Nat} {sh : List (List Int32)} {kp : Nat} {ws : va_W} (g5 : ws[5]? = some (t0, .inr (7, [.ref t1, .ref t2, .ref t3, .ref t4, .int (nI nm)]))) (g6 : ws[6]? = some (t1, .inl (cB, 50000, .inl lf))) (g7 : ws[7]? = some (t2, .inl (cI, 6001, .inl (fun jj => nI (bf jj))))) (g8 : ws[8]? = some (t3, .inl (cI, 6000, .inl (fun jj => nI (sf jj))))) (g9 : ws[9]? = some (t4, .inl (cI, 16384, .inl (fun jj => nI (se jj))))) (hst : StC sh lf bf sf se) (hsn : sh.length = nm) (hn6 : nm ≤ 6000) (hby : sh.flatten.length ≤ 50000) (hkp : kp ≤ nm) : CV D (TY cB cI cJ cO) l yX6_forgetFrom wsX6_forgetFrom ({ frames := 0, cells := 0, slots := 0, locals := 0 }) [.ref t0, .int (nI kp)] ws (fun ws' => ∃ se2 : Nat → Nat, (StC (sh.take kp) lf bf sf se2) ∧ Sm (fun k => k = 5 ∨ k = 9) ws ws' ∧ ws'[5]? = some (t0, .inr (7, [.ref t1, .ref t2, .ref t3, .ref t4, .int (nI kp)])) ∧ ws'[9]? = some (t4, .inl (cI, 16384, .inl (fun jj => nI (se2 jj))))) := by
  refine CV.of (cc := cX6_forgetFrom) (maxL := 3) (ret := none) (by decide) rfl (Nat.le_of_ble_eq_true rfl) ?_
  intro p e s m below meth c A C hK hP hD hA hS ls hl
  obtain ⟨hx, hb, hr, hml, hts, hown, hlocks, hnm⟩ := id C
  have fl_20 := hts (.fieldLink RX6 20 "TwinFinder$Store" "seatOf" "[I") (by decide +kernel)
  have fl_23 := hts (.fieldLink RX6 23 "TwinFinder$Store" "seats" "[I") (by decide +kernel)
  have fl_26 := hts (.fieldLink RX6 26 "TwinFinder$Store" "given" "I") (by decide +kernel)
  have hin_X6 : ∀ w ∈ u_ws RX6 TX6 5, w ∈ wsX6_forgetFrom := by decide +kernel
  have hl : lv_has ls 3 [(0, .ref t0), (1, .int (nI kp))] := hl
  have sm : Sm (fun k => k = 5 ∨ k = 9) ws ws := Sm.rf
  have hc0 : (0 : Nat) ≤ 0 := by decide
  have hs0 : (0 : Nat) ≤ 0 := by decide
  refine lv_aload_n hx hb dX6_forgetFrom_0 rfl (lv_at hl 0 rfl) ?_
  refine va_get (D := D) (ci := 7) (v := .int (nI nm)) (C := RX6) (T := TX6) (N := 5) hx hb hts hin_X6 hown hK hP 5 g5 rfl 4 (by decide) fl_26 (fun _ h9 => h9) rfl dX6_forgetFrom_1 ?_
  
  refine lv_iconst (v := nI 1) hx hb dX6_forgetFrom_4 (by decide) ?_
  
  refine lv_isub hx hb dX6_forgetFrom_5 ?_
  refine lv_istore_n (lv' := [(2, .int ((nI nm) - (nI 1))), (0, .ref t0), (1, .int (nI kp))]) hx hb dX6_forgetFrom_6 rfl hl (by decide) rfl (fun ls hl => ?_)
  have lp_7 : ∀ (fuel : Nat) (g : Nat) (se1 : Nat → Nat), g < fuel → (kp ≤ g ∧ g ≤ nm) → (StC (sh.take g) lf bf sf se1) → ∀ (ws1 : va_W) (H : Heap) (locs : List Loc) (ls : Array Slot), Sm (fun k => k = 5 ∨ k = 9) ws ws1 → ws1[5]? = some (t0, .inr (7, [.ref t1, .ref t2, .ref t3, .ref t4, .int (nI g)])) → ws1[6]? = some (t1, .inl (cB, 50000, .inl lf)) → ws1[7]? = some (t2, .inl (cI, 6001, .inl (fun jj => nI (bf jj)))) → ws1[8]? = some (t3, .inl (cI, 6000, .inl (fun jj => nI (sf jj)))) → ws1[9]? = some (t4, .inl (cI, 16384, .inl (fun jj => nI (se1 jj)))) → va_P D vwCl ws1 H → va_D A ws1 → va_S A s.heap H locs → lv_has ls 3 [(0, .ref t0), (1, .int (nI kp)), (2, .int (nI g - nI 1))] → W p l e ({ frames := 0, cells := 0, slots := 0, locals := 0 }) s m ([.ref t0, .int (nI kp)] : List Value).toArray below meth c H locs 0 0 (ZV D (TY cB cI cJ cO) (fun ws' => ∃ se2 : Nat → Nat, (StC (sh.take kp) lf bf sf se2) ∧ Sm (fun k => k = 5 ∨ k = 9) ws ws' ∧ ws'[5]? = some (t0, .inr (7, [.ref t1, .ref t2, .ref t3, .ref t4, .int (nI kp)])) ∧ ws'[9]? = some (t4, .inl (cI, 16384, .inl (fun jj => nI (se2 jj))))) below [.ref t0, .int (nI kp)] s 0 0 A) (F0 m 7 ls []) := by
    intro fuel
    induction fuel with
    | zero => intro g se1 hfu; exact absurd hfu (Nat.not_lt_zero _)
    | succ fuel ih_7 =>
      intro g se1 hfu_7 hg hst1 ws1 H locs ls sm g5 g6 g7 g8 g9 hP hD hS hl
      rcases g with _ | g
      · have hl : lv_has ls 3 [(0, .ref t0), (1, .int (nI kp)), (2, .int (-1))] := hl
        refine lv_iload_n hx hb dX6_forgetFrom_7 rfl (lv_at hl 2 rfl) ?_
        refine lv_iload_n hx hb dX6_forgetFrom_8 rfl (lv_at hl 1 rfl) ?_
        refine lv_icmp_lt (tgt := 39) hx hb dX6_forgetFrom_9 (by decide) (fun c_9 => ?_) (fun c_9 => ?_)
        · have g5 : ws1[5]? = some (t0, .inr (7, [.ref t1, .ref t2, .ref t3, .ref t4, .int (nI kp)])) := by rw [show kp = 0 by omega]; exact g5
          exact CV.ret C hK hP hD hS (⟨_, (by rw [show kp = 0 by omega]; exact hst1), sm, g5, g9⟩) hc0 hs0 dX6_forgetFrom_39
        · exact absurd (show (-1 : Int32) < nI kp from m1_lt (by omega)) c_9
      · have hl : lv_has ls 3 [(0, .ref t0), (1, .int (nI kp)), (2, .int (nI g))] := by rw [nI_m] at hl; exact hl
        have hsg : sf g < 16384 := (hst1.2.2.1 g (by rw [List.length_take]; omega)).1
        refine lv_iload_n hx hb dX6_forgetFrom_7 rfl (lv_at hl 2 rfl) ?_
        refine lv_iload_n hx hb dX6_forgetFrom_8 rfl (lv_at hl 1 rfl) ?_
        refine nx_icmp_lt (tgt := 39) hx hb (by omega) (by omega) dX6_forgetFrom_9 (by decide) (fun c_9 => ?_) (fun c_9 => ?_)
        · have g5 : ws1[5]? = some (t0, .inr (7, [.ref t1, .ref t2, .ref t3, .ref t4, .int (nI kp)])) := by rw [show kp = g + 1 by omega]; exact g5
          exact CV.ret C hK hP hD hS (⟨_, (by rw [show kp = g + 1 by omega]; exact hst1), sm, g5, g9⟩) hc0 hs0 dX6_forgetFrom_39
        · refine lv_iload_n hx hb dX6_forgetFrom_12 rfl (lv_at hl 2 rfl) ?_
          refine nx_if_lt (tgt := 39) hx hb (by omega) dX6_forgetFrom_13 (by decide) ?_
          refine lv_aload_n hx hb dX6_forgetFrom_16 rfl (lv_at hl 0 rfl) ?_
          refine va_get (D := D) (ci := 7) (v := .ref t4) (C := RX6) (T := TX6) (N := 5) hx hb hts hin_X6 hown hK hP 5 g5 rfl 3 (by decide) fl_23 (fun _ h9 => h9) rfl dX6_forgetFrom_17 ?_
          refine lv_aload_n hx hb dX6_forgetFrom_20 rfl (lv_at hl 0 rfl) ?_
          refine va_get (D := D) (ci := 7) (v := .ref t3) (C := RX6) (T := TX6) (N := 5) hx hb hts hin_X6 hown hK hP 5 g5 rfl 2 (by decide) fl_20 (fun _ h9 => h9) rfl dX6_forgetFrom_21 ?_
          refine lv_iload_n hx hb dX6_forgetFrom_24 rfl (lv_at hl 2 rfl) ?_
          refine nx_iald hx hb hK hP 8 1 g8 rfl (k := g) (by omega) (by decide) dX6_forgetFrom_25 ?_
          refine lv_iconst (v := nI 0) hx hb dX6_forgetFrom_26 (by decide) ?_
          refine nx_iastN hx hb hK hP hD hS 9 1 g9 rfl (k := (sf g)) (by omega) (by decide) dX6_forgetFrom_27 (fun ws_1 H locs gq up_2 hP hD hS => ?_)
          have g9 : ws_1[9]? = some (t4, .inl (cI, 16384, .inl (fun jj => nI ((va_up se1 (sf g) 0) jj)))) := gq
          have g5 := up_2.get g5 (by decide)
          have g6 := up_2.get g6 (by decide)
          have g7 := up_2.get g7 (by decide)
          have g8 := up_2.get g8 (by decide)
          have sm := sm.up up_2 (by simp)
          refine lv_aload_n hx hb dX6_forgetFrom_28 rfl (lv_at hl 0 rfl) ?_
          refine lv_iload_n hx hb dX6_forgetFrom_29 rfl (lv_at hl 2 rfl) ?_
          refine nx_put (D := D) (ci := 7) (v := .int (nI g)) (ty := .int) (C := RX6) (T := TX6) (N := 5) hx hb hts hin_X6 tyX6 tyX6_ok nmX6 hown hK hP hD hS 5 g5 rfl 4 (by decide) fl_26 (fun _ h9 => h9) rfl (by decide +kernel) rfl rfl (Nat.le_of_ble_eq_true rfl) dX6_forgetFrom_30 (fun ws_3 H locs gq up_4 hP hD hS => ?_)
          have g5 : ws_3[5]? = some (t0, .inr (7, [.ref t1, .ref t2, .ref t3, .ref t4, .int (nI g)])) := gq
          have g6 := up_4.get g6 (by decide)
          have g7 := up_4.get g7 (by decide)
          have g8 := up_4.get g8 (by decide)
          have g9 := up_4.get g9 (by decide)
          have sm := sm.up up_4 (by simp)
          refine lv_iinc (v := (nI g - nI 1)) (lv' := [(2, .int (nI g - nI 1)), (0, .ref t0), (1, .int (nI kp))]) hx hb dX6_forgetFrom_33 hl (k := 2) rfl (nI_dm g) (by decide) rfl (fun ls hl => ?_)
          refine lv_goto (tgt := 7) hx hb dX6_forgetFrom_36 (by decide) ?_
          exact ih_7 g _ (by omega) (by omega) (hst1.pop (by omega)) _ _ _ _ sm g5 g6 g7 g8 g9 hP hD hS (lv_sub hl [1, 2, 0] rfl)
  exact lp_7 _ nm se (Nat.lt_succ_self _) ⟨hkp, Nat.le_refl _⟩ (by rw [List.take_of_length_le (by omega)]; exact hst) _ _ _ _ sm g5 g6 g7 g8 g9 hP hD hS (lv_sub hl [1, 2, 0] rfl)
