set_option maxHeartbeats 4000000 in
set_option maxRecDepth 100000 in
theorem c_X6_numberOf {D : va_G} {cB cI cJ cO : ClassId} {l : Launch} {t0 t1 t2 t3 t4 nm : Nat} {lf : Nat → Int32} {bf sf se : Nat → Nat} {sh : List (List Int32)} {tx : Nat} {fp : Nat → Int32} {at_ to_ : Nat} {TX : List Int32} {ws : va_W} (g5 : ws[5]? = some (t0, .inr (7, [.ref t1, .ref t2, .ref t3, .ref t4, .int (nI nm)]))) (g6 : ws[6]? = some (t1, .inl (cB, 50000, .inl lf))) (g7 : ws[7]? = some (t2, .inl (cI, 6001, .inl (fun jj => nI (bf jj))))) (g8 : ws[8]? = some (t3, .inl (cI, 6000, .inl (fun jj => nI (sf jj))))) (g9 : ws[9]? = some (t4, .inl (cI, 16384, .inl (fun jj => nI (se jj))))) (g3 : ws[3]? = some (tx, .inl (cB, 800, .inl fp))) (hst : StC sh lf bf sf se) (hsn : sh.length = nm) (hn6 : nm ≤ 6000) (hby : sh.flatten.length ≤ 50000) (hTl : TX.length = to_ - at_) (hat : at_ ≤ to_) (hto : to_ ≤ 800) (hTx : ∀ t (ht : t < TX.length), fp (at_ + t) = TX[t]) (hTb : ∀ x ∈ TX, x.toInt8.toInt32 = x) : CI D (TY cB cI cJ cO) l yX6_numberOf wsX6_numberOf ({ frames := 1, cells := 0, slots := 0, locals := 26 }) [.ref t0, .ref tx, .int (nI at_), .int (nI to_)] ws (fun r ws' => ∃ lf2 : Nat → Int32, ∃ bf2 : Nat → Nat, ∃ sf2 : Nat → Nat, ∃ se2 : Nat → Nat, r = numR sh TX ∧ (StC (cmA sh TX) lf2 bf2 sf2 se2) ∧ Sm (fun k => k = 5 ∨ k = 6 ∨ k = 7 ∨ k = 8 ∨ k = 9) ws ws' ∧ ws'[5]? = some (t0, .inr (7, [.ref t1, .ref t2, .ref t3, .ref t4, .int (nI ((cmA sh TX).length))])) ∧ ws'[6]? = some (t1, .inl (cB, 50000, .inl lf2)) ∧ ws'[7]? = some (t2, .inl (cI, 6001, .inl (fun jj => nI (bf2 jj)))) ∧ ws'[8]? = some (t3, .inl (cI, 6000, .inl (fun jj => nI (sf2 jj)))) ∧ ws'[9]? = some (t4, .inl (cI, 16384, .inl (fun jj => nI (se2 jj))))) := by
  refine CI.of (cc := cX6_numberOf) (maxL := 7) (ret := (some .int)) (by decide) rfl (Nat.le_of_ble_eq_true rfl) ?_
  intro p e s m below meth c A C hK hP hD hA hS ls hl
  obtain ⟨hx, hb, hr, hml, hts, hown, hlocks, hnm⟩ := id C
  have fl_23 := hts (.fieldLink RX6 23 "TwinFinder$Store" "seats" "[I") (by decide +kernel)
  have hin_X6 : ∀ w ∈ u_ws RX6 TX6 5, w ∈ wsX6_numberOf := by decide +kernel
  have hl : lv_has ls 7 [(0, .ref t0), (1, .ref tx), (2, .int (nI at_)), (3, .int (nI to_))] := hl
  have sm : Sm (fun k => k = 5 ∨ k = 6 ∨ k = 7 ∨ k = 8 ∨ k = 9) ws ws := Sm.rf
  have hc0 : (0 : Nat) ≤ 0 := by decide
  have hs0 : (0 : Nat) ≤ 0 := by decide
  refine lv_aload_n hx hb dX6_numberOf_0 rfl (lv_at hl 1 rfl) ?_
  refine lv_iload_n hx hb dX6_numberOf_1 rfl (lv_at hl 2 rfl) ?_
  refine lv_iload_n hx hb dX6_numberOf_2 rfl (lv_at hl 3 rfl) ?_
  refine CI.go (va_runS (As := [.ref tx, .int (nI at_), .int (nI to_)]) (rest := []) ⟨hx, hb, hml, hown, hts⟩ (c_X6_firstSeat  g3 hTl hat hto hTx _) (va_cwS 3 hts gX6_numberOf_X6_firstSeat rfl rfl rfl (by decide +kernel) ⟨Nat.le_of_ble_eq_true rfl, Nat.le_of_ble_eq_true rfl⟩) ⟨pw_blind, fun U hU hW => pw_pre hK hP hD hU hW⟩ rfl rfl hl.1 rfl (lv_room (Nat.le_of_ble_eq_true rfl)) dX6_numberOf_3 ⟨Nat.le_of_ble_eq_true rfl, Nat.le_of_ble_eq_true rfl⟩) hD hS hA (fun r_1 ws_2 H locs hp hP hD hS => ?_)
  obtain ⟨rfl, rfl⟩ := hp
  refine lv_istore (lv' := [(4, .int (nI (haS TX))), (0, .ref t0), (1, .ref tx), (2, .int (nI at_)), (3, .int (nI to_))]) hx hb dX6_numberOf_6 hl (by decide) rfl (fun ls hl => ?_)
  refine lv_iconst (v := nI 0) hx hb dX6_numberOf_8 (by decide) ?_
  refine lv_istore (lv' := [(5, .int (nI 0)), (4, .int (nI (haS TX))), (0, .ref t0), (1, .ref tx), (2, .int (nI at_)), (3, .int (nI to_))]) hx hb dX6_numberOf_9 hl (by decide) rfl (fun ls hl => ?_)
  have lp_11 : ∀ (fuel : Nat) (v : Nat), 16384 - v < fuel → (v ≤ 16384) → (Srch sh se TX v) → ∀ (ws1 : va_W) (H : Heap) (locs : List Loc) (ls : Array Slot), Sm (fun k => k = 5 ∨ k = 6 ∨ k = 7 ∨ k = 8 ∨ k = 9) ws ws1 → ws1[5]? = some (t0, .inr (7, [.ref t1, .ref t2, .ref t3, .ref t4, .int (nI nm)])) → ws1[6]? = some (t1, .inl (cB, 50000, .inl lf)) → ws1[7]? = some (t2, .inl (cI, 6001, .inl (fun jj => nI (bf jj)))) → ws1[8]? = some (t3, .inl (cI, 6000, .inl (fun jj => nI (sf jj)))) → ws1[9]? = some (t4, .inl (cI, 16384, .inl (fun jj => nI (se jj)))) → ws1[3]? = some (tx, .inl (cB, 800, .inl fp)) → va_P D vwCl ws1 H → va_D A ws1 → va_S A s.heap H locs → lv_has ls 7 [(0, .ref t0), (1, .ref tx), (2, .int (nI at_)), (3, .int (nI to_)), (4, .int (nI ((haS TX + v) % 16384))), (5, .int (nI v))] → W p l e ({ frames := 1, cells := 0, slots := 0, locals := 26 }) s m ([.ref t0, .ref tx, .int (nI at_), .int (nI to_)] : List Value).toArray below meth c H locs 0 0 (ZI D (TY cB cI cJ cO) (fun r ws' => ∃ lf2 : Nat → Int32, ∃ bf2 : Nat → Nat, ∃ sf2 : Nat → Nat, ∃ se2 : Nat → Nat, r = numR sh TX ∧ (StC (cmA sh TX) lf2 bf2 sf2 se2) ∧ Sm (fun k => k = 5 ∨ k = 6 ∨ k = 7 ∨ k = 8 ∨ k = 9) ws ws' ∧ ws'[5]? = some (t0, .inr (7, [.ref t1, .ref t2, .ref t3, .ref t4, .int (nI ((cmA sh TX).length))])) ∧ ws'[6]? = some (t1, .inl (cB, 50000, .inl lf2)) ∧ ws'[7]? = some (t2, .inl (cI, 6001, .inl (fun jj => nI (bf2 jj)))) ∧ ws'[8]? = some (t3, .inl (cI, 6000, .inl (fun jj => nI (sf2 jj)))) ∧ ws'[9]? = some (t4, .inl (cI, 16384, .inl (fun jj => nI (se2 jj))))) below [.ref t0, .ref tx, .int (nI at_), .int (nI to_)] s 0 0 A) (F0 m 11 ls []) := by
    intro fuel
    induction fuel with
    | zero => intro v hfu; exact absurd hfu (Nat.not_lt_zero _)
    | succ fuel ih_11 =>
      intro v hfu_11 hv hsr ws1 H locs ls sm g5 g6 g7 g8 g9 g3 hP hD hS hl
      refine lv_iload hx hb dX6_numberOf_11 (lv_at hl 5 rfl) ?_
      refine lv_sipush (v := nI 16384) hx hb dX6_numberOf_13 (by decide) ?_
      refine nx_icmp_ge (tgt := 76) hx hb (by omega) (by omega) dX6_numberOf_16 (by decide) (fun c_16 => ?_) (fun c_16 => ?_)
      · refine lv_iconst (v := -1) hx hb dX6_numberOf_76 (by decide) ?_
        exact CI.ret (v := (-1)) C hK hP hD hS rfl ((Srch.full hst (by rw [show v = 16384 by omega] at hsr; exact hsr) (by omega)).elim) hc0 hs0 dX6_numberOf_77
      · have hqm : (haS TX + v) % 16384 < 16384 := Nat.mod_lt _ (by decide)
        refine lv_aload_n hx hb dX6_numberOf_19 rfl (lv_at hl 0 rfl) ?_
        refine va_get (D := D) (ci := 7) (v := .ref t4) (C := RX6) (T := TX6) (N := 5) hx hb hts hin_X6 hown hK hP 5 g5 rfl 3 (by decide) fl_23 (fun _ h9 => h9) rfl dX6_numberOf_20 ?_
        refine lv_iload hx hb dX6_numberOf_23 (lv_at hl 4 rfl) ?_
        refine nx_iald hx hb hK hP 9 1 g9 rfl (k := ((haS TX + v) % 16384)) (by omega) (by decide) dX6_numberOf_25 ?_
        
        refine lv_iconst (v := nI 1) hx hb dX6_numberOf_26 (by decide) ?_
        refine lv_isub hx hb dX6_numberOf_27 ?_
        rcases hse : se ((haS TX + v) % 16384) with _ | k
        · have hse0 := hse
          rw [show nI 0 - nI 1 = -1 from by decide]
          refine lv_istore (lv' := [(6, .int (-1)), (0, .ref t0), (1, .ref tx), (2, .int (nI at_)), (3, .int (nI to_)), (4, .int (nI ((haS TX + v) % 16384))), (5, .int (nI v))]) hx hb dX6_numberOf_28 hl (by decide) rfl (fun ls hl => ?_)
          refine lv_iload hx hb dX6_numberOf_30 (lv_at hl 0 rfl) ?_
          refine lv_if_ge (tgt := 45) hx hb dX6_numberOf_32 (by decide) (fun c_32 => absurd c_32 (by decide)) (fun c_32 => ?_)
          refine lv_aload_n hx hb dX6_numberOf_35 rfl (lv_at hl 1 rfl) ?_
          refine lv_aload_n hx hb dX6_numberOf_36 rfl (lv_at hl 2 rfl) ?_
          refine lv_iload_n hx hb dX6_numberOf_37 rfl (lv_at hl 3 rfl) ?_
          refine lv_iload_n hx hb dX6_numberOf_38 rfl (lv_at hl 4 rfl) ?_
          refine lv_iload hx hb dX6_numberOf_39 (lv_at hl 5 rfl) ?_
          refine CI.go (va_runV (As := [.ref tx, .int (nI at_), .int (nI to_), .int (nI ((haS TX + v) % 16384))]) (rest := []) ⟨hx, hb, hml, hown, hts⟩ (c_X6_enter  g5 g6 g7 g8 g9 g3 hst hsn hn6 hby hTl hat hto hTx hTb hsr (by omega) hse0 _) (cwV 4 hts gX6_numberOf_X6_enter rfl rfl rfl (by decide +kernel) ⟨Nat.le_of_ble_eq_true rfl, Nat.le_of_ble_eq_true rfl⟩) ⟨pw_blind, va_recv hK hP (ci := 7) (q0 := 5) rfl g5, fun U hU hW => pw_pre hK hP hD hU hW⟩ rfl rfl hl.1 rfl (lv_room (Nat.le_of_ble_eq_true rfl)) dX6_numberOf_41 ⟨Nat.le_of_ble_eq_true rfl, Nat.le_of_ble_eq_true rfl⟩) hD hS hA (fun r_3 ws_4 H locs hp hP hD hS => ?_)
          obtain ⟨lf2, bf2, sf2, se2, rfl, hst2, sm_5, g5, g6, g7, g8, g9⟩ := hp
          have g3 := sm_5.get g3 (by simp)
          have sm := sm.call sm_5 (by intro k hk; (try simp only at hk ⊢); omega)
          have g5 : ws_4[5]? = some (t0, .inr (7, [.ref t1, .ref t2, .ref t3, .ref t4, .int (nI ((cmA sh TX).length))])) := g5
          have g6 : ws_4[6]? = some (t1, .inl (cB, 50000, .inl lf2)) := g6
          have g7 : ws_4[7]? = some (t2, .inl (cI, 6001, .inl (fun jj => nI (bf2 jj)))) := g7
          have g8 : ws_4[8]? = some (t3, .inl (cI, 6000, .inl (fun jj => nI (sf2 jj)))) := g8
          have g9 : ws_4[9]? = some (t4, .inl (cI, 16384, .inl (fun jj => nI (se2 jj)))) := g9
          exact CI.ret (v := (numR sh TX)) C hK hP hD hS rfl (⟨_, _, _, _, rfl, hst2, sm, g5, g6, g7, g8, g9⟩) hc0 hs0 dX6_numberOf_44
        · rw [nI_m]
          have hkn : k < nm := by rcases hst.2.2.2.1 _ hqm with h9 | ⟨i9, h7, h8, h9⟩ <;> omega
          have hsek := hse
          refine lv_istore (lv' := [(6, .int (nI k)), (0, .ref t0), (1, .ref tx), (2, .int (nI at_)), (3, .int (nI to_)), (4, .int (nI ((haS TX + v) % 16384))), (5, .int (nI v))]) hx hb dX6_numberOf_28 hl (by decide) rfl (fun ls hl => ?_)
          refine lv_iload hx hb dX6_numberOf_30 (lv_at hl 0 rfl) ?_
          refine nx_if_ge (tgt := 45) hx hb (by omega) dX6_numberOf_32 (by decide) ?_
          refine lv_aload_n hx hb dX6_numberOf_45 rfl (lv_at hl 1 rfl) ?_
          refine lv_iload hx hb dX6_numberOf_46 (lv_at hl 0 rfl) ?_
          refine lv_aload_n hx hb dX6_numberOf_48 rfl (lv_at hl 2 rfl) ?_
          refine lv_iload_n hx hb dX6_numberOf_49 rfl (lv_at hl 3 rfl) ?_
          refine lv_iload_n hx hb dX6_numberOf_50 rfl (lv_at hl 4 rfl) ?_
          refine CI.go (va_runV (As := [.int (nI k), .ref tx, .int (nI at_), .int (nI to_)]) (rest := []) ⟨hx, hb, hml, hown, hts⟩ (c_X6_isThere  g5 g6 g7 g3 hst hsn hn6 hby hTl hat hto hTx hkn _) (cwV 4 hts gX6_numberOf_X6_isThere rfl rfl rfl (by decide +kernel) ⟨Nat.le_of_ble_eq_true rfl, Nat.le_of_ble_eq_true rfl⟩) ⟨pw_blind, va_recv hK hP (ci := 7) (q0 := 5) rfl g5, fun U hU hW => pw_pre hK hP hD hU hW⟩ rfl rfl hl.1 rfl (lv_room (Nat.le_of_ble_eq_true rfl)) dX6_numberOf_51 ⟨Nat.le_of_ble_eq_true rfl, Nat.le_of_ble_eq_true rfl⟩) hD hS hA (fun r_6 ws_7 H locs hp hP hD hS => ?_)
          obtain ⟨rfl, rfl⟩ := hp
          refine nx_if_eq (tgt := 60) hx hb (by exact bn2 _) dX6_numberOf_54 (by decide) (fun c_54 => ?_) (fun c_54 => ?_)
          · refine lv_iload hx hb dX6_numberOf_60 (lv_at hl 5 rfl) ?_
            refine lv_iconst (v := nI 1) hx hb dX6_numberOf_62 (by decide) ?_
            refine nx_iadd hx hb dX6_numberOf_63 ?_
            refine lv_sipush (v := nI 16383) hx hb dX6_numberOf_64 (by decide) ?_
            refine lv_iand hx hb dX6_numberOf_67 ?_
            refine lv_istore (lv' := [(4, .int ((nI (((haS TX + v) % 16384) + 1)) &&& (nI 16383))), (6, .int (nI k)), (0, .ref t0), (1, .ref tx), (2, .int (nI at_)), (3, .int (nI to_)), (5, .int (nI v))]) hx hb dX6_numberOf_68 hl (by decide) rfl (fun ls hl => ?_)
            refine lv_iinc (v := (nI (v + 1))) (lv' := [(5, .int (nI (v + 1))), (4, .int ((nI (((haS TX + v) % 16384) + 1)) &&& (nI 16383))), (6, .int (nI k)), (0, .ref t0), (1, .ref tx), (2, .int (nI at_)), (3, .int (nI to_))]) hx hb dX6_numberOf_70 hl (k := 6) rfl (nx_inc _ 1) (by decide) rfl (fun ls hl => ?_)
            refine lv_goto (tgt := 11) hx hb dX6_numberOf_73 (by decide) ?_
            have hl : lv_has ls 7 [(5, .int (nI (v + 1))), (4, .int (nI ((haS TX + (v + 1)) % 16384))), (6, .int (nI k)), (0, .ref t0), (1, .ref tx), (2, .int (nI at_)), (3, .int (nI to_))] := by rw [← show (nI (((haS TX + v) % 16384) + 1)) &&& (nI 16383) = nI ((haS TX + (v + 1)) % 16384) from (by rw [nI_and (by omega)]; congr 1; omega)]; exact hl
            exact ih_11 (v + 1) (by omega) (by omega) (lt_s hsr ⟨k, by omega, hsek, fun h9 => absurd (bool0 c_54) (by rw [gLd (by omega), decide_eq_true h9]; decide)⟩) _ _ _ _ sm g5 g6 g7 g8 g9 g3 hP hD hS (lv_sub hl [3, 4, 5, 6, 1, 0] rfl)
          · refine lv_iload hx hb dX6_numberOf_57 (lv_at hl 0 rfl) ?_
            have hid : idxO sh TX = some k := idxO_nd hst.2.2.2.2.2 (k := k) (by omega) (by have h9 := of_decide_eq_true (bool1 c_54); rw [gLd (by omega)] at h9; exact h9)
            have hcm := cma_some (F := []) hid
            have g5 : ws1[5]? = some (t0, .inr (7, [.ref t1, .ref t2, .ref t3, .ref t4, .int (nI ((cmA sh TX).length))])) := by rw [hcm.2.1, hsn]; exact g5
            exact CI.ret (v := (nI k)) C hK hP hD hS rfl (⟨lf, bf, sf, se, (by rw [numR, hcm.1, cmK, hid]; rfl), (by rw [hcm.2.1]; exact hst), sm, g5, g6, g7, g8, g9⟩) hc0 hs0 dX6_numberOf_59
  have hl : lv_has ls 7 [(5, .int (nI 0)), (4, .int (nI ((haS TX + 0) % 16384))), (0, .ref t0), (1, .ref tx), (2, .int (nI at_)), (3, .int (nI to_))] := by rw [← show haS TX = (haS TX + 0) % 16384 from (by rw [Nat.add_zero, Nat.mod_eq_of_lt (hS_lt TX)])]; exact hl
  exact lp_11 _ 0 (Nat.lt_succ_self _) (Nat.zero_le _) (fun w hw => absurd hw (Nat.not_lt_zero w)) _ _ _ _ sm g5 g6 g7 g8 g9 g3 hP hD hS (lv_sub hl [2, 3, 4, 5, 1, 0] rfl)
