set_option maxHeartbeats 4000000 in
set_option maxRecDepth 100000 in
theorem c_X4_init {D : va_G} {cB cI cJ cO : ClassId} {l : Launch} {f0 : Nat} {ws : va_W} (g10 : ws[10]? = some (f0, .inr (5, [.null, .null, .null, .null, .null, .int (nI 0), .int (nI 0)]))) (hlen : ws.length = 11) : CV D (TY cB cI cJ cO) l yX4_init wsX4_init ({ frames := 1, cells := 5, slots := 1392, locals := 12 }) [.ref f0] ws (fun ws' => ∃ f1 : Nat, ∃ f2 : Nat, ∃ f3 : Nat, ∃ f4 : Nat, ∃ f5 : Nat, ∃ ta : Nat → Nat, (∀ k, k < 64 → ta k = 1) ∧ (ws'.length = 16) ∧ Sm (fun k => k = 10) ws ws' ∧ ws'[10]? = some (f0, .inr (5, [.ref f1, .ref f2, .ref f3, .ref f4, .ref f5, .int (nI 0), .int (nI 0)])) ∧ ws'[11]? = some (f1, .inl (cI, 64, .inl (fun jj => nI (ta jj)))) ∧ ws'[12]? = some (f2, .inl (cI, 64, .inl (fun jj => nI ((fun _ => 0) jj)))) ∧ ws'[13]? = some (f3, .inl (cI, 64, .inl (fun jj => nI ((fun _ => 0) jj)))) ∧ ws'[14]? = some (f4, .inl (cI, 600, .inl (fun jj => nI ((fun _ => 0) jj)))) ∧ ws'[15]? = some (f5, .inl (cI, 600, .inl (fun jj => nI ((fun _ => 0) jj))))) := by
  refine CV.of (cc := cX4_init) (maxL := 2) (ret := none) (by decide) rfl (Nat.le_of_ble_eq_true rfl) ?_
  intro p e s m below meth c A C hK hP hD hA hS ls hl
  obtain ⟨hx, hb, hr, hml, hts, hown, hlocks, hnm⟩ := id C
  have fl_9 := hts (.fieldLink RX4 9 "TwinFinder$Permutations" "factor" "[I") (by decide +kernel)
  have fl_15 := hts (.fieldLink RX4 15 "TwinFinder$Permutations" "summand" "[I") (by decide +kernel)
  have fl_18 := hts (.fieldLink RX4 18 "TwinFinder$Permutations" "exchanges" "[I") (by decide +kernel)
  have fl_21 := hts (.fieldLink RX4 21 "TwinFinder$Permutations" "movedKey" "[I") (by decide +kernel)
  have fl_24 := hts (.fieldLink RX4 24 "TwinFinder$Permutations" "movedImage" "[I") (by decide +kernel)
  have hin_X4 : ∀ w ∈ u_ws RX4 TX4 7, w ∈ wsX4_init := by decide +kernel
  have hl : lv_has ls 2 [(0, .ref f0)] := hl
  have sm : Sm (fun k => k = 10) ws ws := Sm.rf
  have hc0 : (0 : Nat) ≤ 5 := by decide
  have hs0 : (0 : Nat) ≤ 1392 := by decide
  refine lv_aload_n hx hb dX4_init_0 rfl (lv_at hl 0 rfl) ?_
  refine W.objInit hx hb hown (hts (.methodLink RX4 3 objectInit) (by decide +kernel)) (hts (.instanceMethod objectInit) (by decide +kernel)) (hts _ (List.mem_of_getElem? (l := wsX4_init) (i := 3) rfl)) rfl (by rw [hml]; exact hl.1) rfl dX4_init_1 (Nat.le_of_ble_eq_true rfl) (Nat.le_of_ble_eq_true rfl) ?_
  refine W.eq (g2 := F0 m 4 ls []) rfl ?_
  refine lv_aload_n hx hb dX4_init_4 rfl (lv_at hl 0 rfl) ?_
  refine lv_bipush (v := nI 64) hx hb dX4_init_5 (by decide) ?_
  refine nx_newI hx hb (hts (.arrayClass .int) (by decide +kernel)) hK hP hD hS hA (N' := 64) (by decide) (Nat.le_of_ble_eq_true rfl) (Nat.le_of_ble_eq_true rfl) dX4_init_7 (fun q_1 ws_2 H gq ps_3 hP hD hS => ?_)
  rw [hlen] at gq
  have g10 := ps_3.get g10
  have g11 : ws_2[11]? = some (q_1, .inl (cI, 64, .inl (fun jj => nI ((fun _ => 0) jj)))) := gq
  have hlen : ws_2.length = 12 := by have h9 := ps_3.1; omega
  have sm := sm.ps ps_3
  refine W.widen (k := 1) (n := 64) (by decide) (by decide) ?_
  refine nx_putF (D := D) (ci := 5) (v := .ref q_1) (ty := .array .int) (C := RX4) (T := TX4) (N := 7) hx hb hts hin_X4 tyX4 tyX4_ok nmX4 hown hK hP hD hS 10 g10 rfl 0 (by decide) fl_9 (fun _ h9 => h9) rfl hnm rfl (by decide +kernel) rfl rfl (Nat.le_of_ble_eq_true rfl) dX4_init_9 (fun ws_4 H locs gq up_5 hP hD hS => ?_)
  have g10 : ws_4[10]? = some (f0, .inr (5, [.ref q_1, .null, .null, .null, .null, .int (nI 0), .int (nI 0)])) := gq
  have g11 := up_5.get g11 (by decide)
  have hlen := up_5.1.trans hlen
  have sm := sm.up up_5 (by simp)
  refine lv_aload_n hx hb dX4_init_12 rfl (lv_at hl 0 rfl) ?_
  refine lv_bipush (v := nI 64) hx hb dX4_init_13 (by decide) ?_
  refine nx_newI hx hb (hts (.arrayClass .int) (by decide +kernel)) hK hP hD hS hA (N' := 64) (by decide) (Nat.le_of_ble_eq_true rfl) (Nat.le_of_ble_eq_true rfl) dX4_init_15 (fun q_6 ws_7 H gq ps_8 hP hD hS => ?_)
  rw [hlen] at gq
  have g10 := ps_8.get g10
  have g11 := ps_8.get g11
  have g12 : ws_7[12]? = some (q_6, .inl (cI, 64, .inl (fun jj => nI ((fun _ => 0) jj)))) := gq
  have hlen : ws_7.length = 13 := by have h9 := ps_8.1; omega
  have sm := sm.ps ps_8
  refine W.widen (k := 2) (n := 128) (by decide) (by decide) ?_
  refine nx_putF (D := D) (ci := 5) (v := .ref q_6) (ty := .array .int) (C := RX4) (T := TX4) (N := 7) hx hb hts hin_X4 tyX4 tyX4_ok nmX4 hown hK hP hD hS 10 g10 rfl 1 (by decide) fl_15 (fun _ h9 => h9) rfl hnm rfl (by decide +kernel) rfl rfl (Nat.le_of_ble_eq_true rfl) dX4_init_17 (fun ws_9 H locs gq up_10 hP hD hS => ?_)
  have g10 : ws_9[10]? = some (f0, .inr (5, [.ref q_1, .ref q_6, .null, .null, .null, .int (nI 0), .int (nI 0)])) := gq
  have g11 := up_10.get g11 (by decide)
  have g12 := up_10.get g12 (by decide)
  have hlen := up_10.1.trans hlen
  have sm := sm.up up_10 (by simp)
  refine lv_aload_n hx hb dX4_init_20 rfl (lv_at hl 0 rfl) ?_
  refine lv_bipush (v := nI 64) hx hb dX4_init_21 (by decide) ?_
  refine nx_newI hx hb (hts (.arrayClass .int) (by decide +kernel)) hK hP hD hS hA (N' := 64) (by decide) (Nat.le_of_ble_eq_true rfl) (Nat.le_of_ble_eq_true rfl) dX4_init_23 (fun q_11 ws_12 H gq ps_13 hP hD hS => ?_)
  rw [hlen] at gq
  have g10 := ps_13.get g10
  have g11 := ps_13.get g11
  have g12 := ps_13.get g12
  have g13 : ws_12[13]? = some (q_11, .inl (cI, 64, .inl (fun jj => nI ((fun _ => 0) jj)))) := gq
  have hlen : ws_12.length = 14 := by have h9 := ps_13.1; omega
  have sm := sm.ps ps_13
  refine W.widen (k := 3) (n := 192) (by decide) (by decide) ?_
  refine nx_putF (D := D) (ci := 5) (v := .ref q_11) (ty := .array .int) (C := RX4) (T := TX4) (N := 7) hx hb hts hin_X4 tyX4 tyX4_ok nmX4 hown hK hP hD hS 10 g10 rfl 2 (by decide) fl_18 (fun _ h9 => h9) rfl hnm rfl (by decide +kernel) rfl rfl (Nat.le_of_ble_eq_true rfl) dX4_init_25 (fun ws_14 H locs gq up_15 hP hD hS => ?_)
  have g10 : ws_14[10]? = some (f0, .inr (5, [.ref q_1, .ref q_6, .ref q_11, .null, .null, .int (nI 0), .int (nI 0)])) := gq
  have g11 := up_15.get g11 (by decide)
  have g12 := up_15.get g12 (by decide)
  have g13 := up_15.get g13 (by decide)
  have hlen := up_15.1.trans hlen
  have sm := sm.up up_15 (by simp)
  refine lv_aload_n hx hb dX4_init_28 rfl (lv_at hl 0 rfl) ?_
  refine lv_sipush (v := nI 600) hx hb dX4_init_29 (by decide) ?_
  refine nx_newI hx hb (hts (.arrayClass .int) (by decide +kernel)) hK hP hD hS hA (N' := 600) (by decide) (Nat.le_of_ble_eq_true rfl) (Nat.le_of_ble_eq_true rfl) dX4_init_32 (fun q_16 ws_17 H gq ps_18 hP hD hS => ?_)
  rw [hlen] at gq
  have g10 := ps_18.get g10
  have g11 := ps_18.get g11
  have g12 := ps_18.get g12
  have g13 := ps_18.get g13
  have g14 : ws_17[14]? = some (q_16, .inl (cI, 600, .inl (fun jj => nI ((fun _ => 0) jj)))) := gq
  have hlen : ws_17.length = 15 := by have h9 := ps_18.1; omega
  have sm := sm.ps ps_18
  refine W.widen (k := 4) (n := 792) (by decide) (by decide) ?_
  refine nx_putF (D := D) (ci := 5) (v := .ref q_16) (ty := .array .int) (C := RX4) (T := TX4) (N := 7) hx hb hts hin_X4 tyX4 tyX4_ok nmX4 hown hK hP hD hS 10 g10 rfl 3 (by decide) fl_21 (fun _ h9 => h9) rfl hnm rfl (by decide +kernel) rfl rfl (Nat.le_of_ble_eq_true rfl) dX4_init_34 (fun ws_19 H locs gq up_20 hP hD hS => ?_)
  have g10 : ws_19[10]? = some (f0, .inr (5, [.ref q_1, .ref q_6, .ref q_11, .ref q_16, .null, .int (nI 0), .int (nI 0)])) := gq
  have g11 := up_20.get g11 (by decide)
  have g12 := up_20.get g12 (by decide)
  have g13 := up_20.get g13 (by decide)
  have g14 := up_20.get g14 (by decide)
  have hlen := up_20.1.trans hlen
  have sm := sm.up up_20 (by simp)
  refine lv_aload_n hx hb dX4_init_37 rfl (lv_at hl 0 rfl) ?_
  refine lv_sipush (v := nI 600) hx hb dX4_init_38 (by decide) ?_
  refine nx_newI hx hb (hts (.arrayClass .int) (by decide +kernel)) hK hP hD hS hA (N' := 600) (by decide) (Nat.le_of_ble_eq_true rfl) (Nat.le_of_ble_eq_true rfl) dX4_init_41 (fun q_21 ws_22 H gq ps_23 hP hD hS => ?_)
  rw [hlen] at gq
  have g10 := ps_23.get g10
  have g11 := ps_23.get g11
  have g12 := ps_23.get g12
  have g13 := ps_23.get g13
  have g14 := ps_23.get g14
  have g15 : ws_22[15]? = some (q_21, .inl (cI, 600, .inl (fun jj => nI ((fun _ => 0) jj)))) := gq
  have hlen : ws_22.length = 16 := by have h9 := ps_23.1; omega
  have sm := sm.ps ps_23
  refine W.widen (k := 5) (n := 1392) (by decide) (by decide) ?_
  refine nx_putF (D := D) (ci := 5) (v := .ref q_21) (ty := .array .int) (C := RX4) (T := TX4) (N := 7) hx hb hts hin_X4 tyX4 tyX4_ok nmX4 hown hK hP hD hS 10 g10 rfl 4 (by decide) fl_24 (fun _ h9 => h9) rfl hnm rfl (by decide +kernel) rfl rfl (Nat.le_of_ble_eq_true rfl) dX4_init_43 (fun ws_24 H locs gq up_25 hP hD hS => ?_)
  have g10 : ws_24[10]? = some (f0, .inr (5, [.ref q_1, .ref q_6, .ref q_11, .ref q_16, .ref q_21, .int (nI 0), .int (nI 0)])) := gq
  have g11 := up_25.get g11 (by decide)
  have g12 := up_25.get g12 (by decide)
  have g13 := up_25.get g13 (by decide)
  have g14 := up_25.get g14 (by decide)
  have g15 := up_25.get g15 (by decide)
  have hlen := up_25.1.trans hlen
  have sm := sm.up up_25 (by simp)
  refine lv_iconst (v := nI 0) hx hb dX4_init_46 (by decide) ?_
  refine lv_istore_n (lv' := [(1, .int (nI 0)), (0, .ref f0)]) hx hb dX4_init_47 rfl hl (by decide) rfl (fun ls hl => ?_)
  have lp_48 : ∀ (fuel : Nat) (i : Nat) (ta1 : Nat → Nat), 64 - i < fuel → (i ≤ 64) → (∀ k, k < i → ta1 k = 1) → ∀ (ws1 : va_W) (H : Heap) (locs : List Loc) (ls : Array Slot), Sm (fun k => k = 10) ws ws1 → ws1[10]? = some (f0, .inr (5, [.ref q_1, .ref q_6, .ref q_11, .ref q_16, .ref q_21, .int (nI 0), .int (nI 0)])) → ws1[11]? = some (q_1, .inl (cI, 64, .inl (fun jj => nI (ta1 jj)))) → ws1[12]? = some (q_6, .inl (cI, 64, .inl (fun jj => nI ((fun _ => 0) jj)))) → ws1[13]? = some (q_11, .inl (cI, 64, .inl (fun jj => nI ((fun _ => 0) jj)))) → ws1[14]? = some (q_16, .inl (cI, 600, .inl (fun jj => nI ((fun _ => 0) jj)))) → ws1[15]? = some (q_21, .inl (cI, 600, .inl (fun jj => nI ((fun _ => 0) jj)))) → ws1.length = 16 → va_P D vwCl ws1 H → va_D A ws1 → va_S A s.heap H locs → lv_has ls 2 [(0, .ref f0), (1, .int (nI i))] → W p l e ({ frames := 1, cells := 5, slots := 1392, locals := 12 }) s m ([.ref f0] : List Value).toArray below meth c H locs 5 1392 (ZV D (TY cB cI cJ cO) (fun ws' => ∃ f1 : Nat, ∃ f2 : Nat, ∃ f3 : Nat, ∃ f4 : Nat, ∃ f5 : Nat, ∃ ta : Nat → Nat, (∀ k, k < 64 → ta k = 1) ∧ (ws'.length = 16) ∧ Sm (fun k => k = 10) ws ws' ∧ ws'[10]? = some (f0, .inr (5, [.ref f1, .ref f2, .ref f3, .ref f4, .ref f5, .int (nI 0), .int (nI 0)])) ∧ ws'[11]? = some (f1, .inl (cI, 64, .inl (fun jj => nI (ta jj)))) ∧ ws'[12]? = some (f2, .inl (cI, 64, .inl (fun jj => nI ((fun _ => 0) jj)))) ∧ ws'[13]? = some (f3, .inl (cI, 64, .inl (fun jj => nI ((fun _ => 0) jj)))) ∧ ws'[14]? = some (f4, .inl (cI, 600, .inl (fun jj => nI ((fun _ => 0) jj)))) ∧ ws'[15]? = some (f5, .inl (cI, 600, .inl (fun jj => nI ((fun _ => 0) jj))))) below [.ref f0] s 5 1392 A) (F0 m 48 ls []) := by
    intro fuel
    induction fuel with
    | zero => intro i ta1 hfu; exact absurd hfu (Nat.not_lt_zero _)
    | succ fuel ih_48 =>
      intro i ta1 hfu_48 hi hta1 ws1 H locs ls sm g10 g11 g12 g13 g14 g15 hlen hP hD hS hl
      refine lv_iload_n hx hb dX4_init_48 rfl (lv_at hl 1 rfl) ?_
      refine lv_bipush (v := nI 64) hx hb dX4_init_49 (by decide) ?_
      refine nx_icmp_ge (tgt := 67) hx hb (by omega) (by omega) dX4_init_51 (by decide) (fun c_51 => ?_) (fun c_51 => ?_)
      · exact CV.ret C hK hP hD hS (⟨_, _, _, _, _, _, (fun k hk => hta1 k (by omega)), hlen, sm, g10, g11, g12, g13, g14, g15⟩) (by decide) (by decide) dX4_init_67
      · refine lv_aload_n hx hb dX4_init_54 rfl (lv_at hl 0 rfl) ?_
        refine va_get (D := D) (ci := 5) (v := .ref q_1) (C := RX4) (T := TX4) (N := 7) hx hb hts hin_X4 hown hK hP 10 g10 rfl 0 (by decide) fl_9 (fun _ h9 => h9) rfl dX4_init_55 ?_
        refine lv_iload_n hx hb dX4_init_58 rfl (lv_at hl 1 rfl) ?_
        refine lv_iconst (v := nI 1) hx hb dX4_init_59 (by decide) ?_
        refine nx_iastN hx hb hK hP hD hS 11 1 g11 rfl (k := i) (by omega) (by decide) dX4_init_60 (fun ws_26 H locs gq up_27 hP hD hS => ?_)
        have g11 : ws_26[11]? = some (q_1, .inl (cI, 64, .inl (fun jj => nI ((va_up ta1 i 1) jj)))) := gq
        have g10 := up_27.get g10 (by decide)
        have g12 := up_27.get g12 (by decide)
        have g13 := up_27.get g13 (by decide)
        have g14 := up_27.get g14 (by decide)
        have g15 := up_27.get g15 (by decide)
        have hlen := up_27.1.trans hlen
        have sm := sm.upn up_27 (by omega)
        refine lv_iinc (v := (nI (i + 1))) (lv' := [(1, .int (nI (i + 1))), (0, .ref f0)]) hx hb dX4_init_61 hl (k := 1) rfl (nx_inc _ 1) (by decide) rfl (fun ls hl => ?_)
        refine lv_goto (tgt := 48) hx hb dX4_init_64 (by decide) ?_
        exact ih_48 (i + 1) _ (by omega) (by omega) (lt_s (fun k hk => by rw [va_up_ne _ _ (by omega)]; exact hta1 k hk) (va_up_self _ _ _)) _ _ _ _ sm g10 g11 g12 g13 g14 g15 hlen hP hD hS (lv_sub hl [1, 0] rfl)
  exact lp_48 _ 0 _ (Nat.lt_succ_self _) (Nat.zero_le _) (fun k hk => absurd hk (Nat.not_lt_zero k)) _ _ _ _ sm g10 g11 g12 g13 g14 g15 hlen hP hD hS (lv_sub hl [1, 0] rfl)
set_option maxHeartbeats 4000000 in
set_option maxRecDepth 100000 in
theorem c_X0_init {D : va_G} {cB cI cJ cO : ClassId} {l : Launch} {pq d0 sl : Nat} {ws : va_W} (gpq : ws[pq]? = some (d0, .inr (1, [.int (nI 0), .null, .null, .null, .null, .int (nI 0), .int (nI 0)]))) (hlen : ws.length = pq + 1) : CV D (TY cB cI cJ cO) l yX0_init wsX0_init ({ frames := 1, cells := 4, slots := 1006, locals := 12 }) [.ref d0, .int (nI sl)] ws (fun ws' => ∃ d1 : Nat, ∃ d2 : Nat, ∃ d3 : Nat, ∃ d4 : Nat, (ws'.length = pq + 5) ∧ Sm (fun k => k = pq) ws ws' ∧ ws'[pq]? = some (d0, .inr (1, [.int (nI sl), .ref d1, .ref d2, .ref d3, .ref d4, .int (nI 0), .int (nI 0)])) ∧ ws'[pq + 1]? = some (d1, .inl (cJ, 94, .inr (.inl (fun _ => 0)))) ∧ ws'[pq + 2]? = some (d2, .inl (cI, 800, .inl (fun jj => nI ((fun _ => 0) jj)))) ∧ ws'[pq + 3]? = some (d3, .inl (cI, 64, .inl (fun jj => nI ((fun _ => 0) jj)))) ∧ ws'[pq + 4]? = some (d4, .inl (cI, 48, .inl (fun jj => nI ((fun _ => 0) jj))))) := by
  refine CV.of (cc := cX0_init) (maxL := 2) (ret := none) (by decide) rfl (Nat.le_of_ble_eq_true rfl) ?_
  intro p e s m below meth c A C hK hP hD hA hS ls hl
  obtain ⟨hx, hb, hr, hml, hts, hown, hlocks, hnm⟩ := id C
  have fl_9 := hts (.fieldLink RX0 9 "TwinFinder$Document" "set" "[J") (by decide +kernel)
  have fl_15 := hts (.fieldLink RX0 15 "TwinFinder$Document" "numbers" "[I") (by decide +kernel)
  have fl_19 := hts (.fieldLink RX0 19 "TwinFinder$Document" "least" "[I") (by decide +kernel)
  have fl_22 := hts (.fieldLink RX0 22 "TwinFinder$Document" "shared" "[I") (by decide +kernel)
  have fl_25 := hts (.fieldLink RX0 25 "TwinFinder$Document" "slot" "I") (by decide +kernel)
  have hin_X0 : ∀ w ∈ u_ws RX0 TX0 7, w ∈ wsX0_init := by decide +kernel
  have hl : lv_has ls 2 [(0, .ref d0), (1, .int (nI sl))] := hl
  have sm : Sm (fun k => k = pq) ws ws := Sm.rf
  have hc0 : (0 : Nat) ≤ 4 := by decide
  have hs0 : (0 : Nat) ≤ 1006 := by decide
  refine lv_aload_n hx hb dX0_init_0 rfl (lv_at hl 0 rfl) ?_
  refine W.objInit hx hb hown (hts (.methodLink RX0 3 objectInit) (by decide +kernel)) (hts (.instanceMethod objectInit) (by decide +kernel)) (hts _ (List.mem_of_getElem? (l := wsX0_init) (i := 3) rfl)) rfl (by rw [hml]; exact hl.1) rfl dX0_init_1 (Nat.le_of_ble_eq_true rfl) (Nat.le_of_ble_eq_true rfl) ?_
  refine W.eq (g2 := F0 m 4 ls []) rfl ?_
  refine lv_aload_n hx hb dX0_init_4 rfl (lv_at hl 0 rfl) ?_
  refine lv_bipush (v := nI 94) hx hb dX0_init_5 (by decide) ?_
  refine nx_newJ hx hb (hts (.arrayClass .long) (by decide +kernel)) hK hP hD hS hA (N' := 94) (by decide) (Nat.le_of_ble_eq_true rfl) (Nat.le_of_ble_eq_true rfl) dX0_init_7 (fun q_1 ws_2 H gq ps_3 hP hD hS => ?_)
  rw [hlen] at gq
  have gpq := ps_3.get gpq
  have gpq_1 : ws_2[pq + 1]? = some (q_1, .inl (cJ, 94, .inr (.inl (fun _ => 0)))) := gq
  have hlen : ws_2.length = pq + 2 := by have h9 := ps_3.1; omega
  have sm := sm.ps ps_3
  refine W.widen (k := 1) (n := 94) (by decide) (by decide) ?_
  refine nx_putF (D := D) (ci := 1) (v := .ref q_1) (ty := .array .long) (C := RX0) (T := TX0) (N := 7) hx hb hts hin_X0 tyX0 tyX0_ok nmX0 hown hK hP hD hS pq gpq rfl 1 (by decide) fl_9 (fun _ h9 => h9) rfl hnm rfl (by decide +kernel) rfl rfl (Nat.le_of_ble_eq_true rfl) dX0_init_9 (fun ws_4 H locs gq up_5 hP hD hS => ?_)
  have gpq : ws_4[pq]? = some (d0, .inr (1, [.int (nI 0), .ref q_1, .null, .null, .null, .int (nI 0), .int (nI 0)])) := gq
  have gpq_1 := up_5.get gpq_1 (by omega)
  have hlen := up_5.1.trans hlen
  have sm := sm.up up_5 (by simp)
  refine lv_aload_n hx hb dX0_init_12 rfl (lv_at hl 0 rfl) ?_
  refine lv_sipush (v := nI 800) hx hb dX0_init_13 (by decide) ?_
  refine nx_newI hx hb (hts (.arrayClass .int) (by decide +kernel)) hK hP hD hS hA (N' := 800) (by decide) (Nat.le_of_ble_eq_true rfl) (Nat.le_of_ble_eq_true rfl) dX0_init_16 (fun q_6 ws_7 H gq ps_8 hP hD hS => ?_)
  rw [hlen] at gq
  have gpq := ps_8.get gpq
  have gpq_1 := ps_8.get gpq_1
  have gpq_2 : ws_7[pq + 2]? = some (q_6, .inl (cI, 800, .inl (fun jj => nI ((fun _ => 0) jj)))) := gq
  have hlen : ws_7.length = pq + 3 := by have h9 := ps_8.1; omega
  have sm := sm.ps ps_8
  refine W.widen (k := 2) (n := 894) (by decide) (by decide) ?_
  refine nx_putF (D := D) (ci := 1) (v := .ref q_6) (ty := .array .int) (C := RX0) (T := TX0) (N := 7) hx hb hts hin_X0 tyX0 tyX0_ok nmX0 hown hK hP hD hS pq gpq rfl 2 (by decide) fl_15 (fun _ h9 => h9) rfl hnm rfl (by decide +kernel) rfl rfl (Nat.le_of_ble_eq_true rfl) dX0_init_18 (fun ws_9 H locs gq up_10 hP hD hS => ?_)
  have gpq : ws_9[pq]? = some (d0, .inr (1, [.int (nI 0), .ref q_1, .ref q_6, .null, .null, .int (nI 0), .int (nI 0)])) := gq
  have gpq_1 := up_10.get gpq_1 (by omega)
  have gpq_2 := up_10.get gpq_2 (by omega)
  have hlen := up_10.1.trans hlen
  have sm := sm.up up_10 (by simp)
  refine lv_aload_n hx hb dX0_init_21 rfl (lv_at hl 0 rfl) ?_
  refine lv_bipush (v := nI 64) hx hb dX0_init_22 (by decide) ?_
  refine nx_newI hx hb (hts (.arrayClass .int) (by decide +kernel)) hK hP hD hS hA (N' := 64) (by decide) (Nat.le_of_ble_eq_true rfl) (Nat.le_of_ble_eq_true rfl) dX0_init_24 (fun q_11 ws_12 H gq ps_13 hP hD hS => ?_)
  rw [hlen] at gq
  have gpq := ps_13.get gpq
  have gpq_1 := ps_13.get gpq_1
  have gpq_2 := ps_13.get gpq_2
  have gpq_3 : ws_12[pq + 3]? = some (q_11, .inl (cI, 64, .inl (fun jj => nI ((fun _ => 0) jj)))) := gq
  have hlen : ws_12.length = pq + 4 := by have h9 := ps_13.1; omega
  have sm := sm.ps ps_13
  refine W.widen (k := 3) (n := 958) (by decide) (by decide) ?_
  refine nx_putF (D := D) (ci := 1) (v := .ref q_11) (ty := .array .int) (C := RX0) (T := TX0) (N := 7) hx hb hts hin_X0 tyX0 tyX0_ok nmX0 hown hK hP hD hS pq gpq rfl 3 (by decide) fl_19 (fun _ h9 => h9) rfl hnm rfl (by decide +kernel) rfl rfl (Nat.le_of_ble_eq_true rfl) dX0_init_26 (fun ws_14 H locs gq up_15 hP hD hS => ?_)
  have gpq : ws_14[pq]? = some (d0, .inr (1, [.int (nI 0), .ref q_1, .ref q_6, .ref q_11, .null, .int (nI 0), .int (nI 0)])) := gq
  have gpq_1 := up_15.get gpq_1 (by omega)
  have gpq_2 := up_15.get gpq_2 (by omega)
  have gpq_3 := up_15.get gpq_3 (by omega)
  have hlen := up_15.1.trans hlen
  have sm := sm.up up_15 (by simp)
  refine lv_aload_n hx hb dX0_init_29 rfl (lv_at hl 0 rfl) ?_
  refine lv_bipush (v := nI 48) hx hb dX0_init_30 (by decide) ?_
  refine nx_newI hx hb (hts (.arrayClass .int) (by decide +kernel)) hK hP hD hS hA (N' := 48) (by decide) (Nat.le_of_ble_eq_true rfl) (Nat.le_of_ble_eq_true rfl) dX0_init_32 (fun q_16 ws_17 H gq ps_18 hP hD hS => ?_)
  rw [hlen] at gq
  have gpq := ps_18.get gpq
  have gpq_1 := ps_18.get gpq_1
  have gpq_2 := ps_18.get gpq_2
  have gpq_3 := ps_18.get gpq_3
  have gpq_4 : ws_17[pq + 4]? = some (q_16, .inl (cI, 48, .inl (fun jj => nI ((fun _ => 0) jj)))) := gq
  have hlen : ws_17.length = pq + 5 := by have h9 := ps_18.1; omega
  have sm := sm.ps ps_18
  refine W.widen (k := 4) (n := 1006) (by decide) (by decide) ?_
  refine nx_putF (D := D) (ci := 1) (v := .ref q_16) (ty := .array .int) (C := RX0) (T := TX0) (N := 7) hx hb hts hin_X0 tyX0 tyX0_ok nmX0 hown hK hP hD hS pq gpq rfl 4 (by decide) fl_22 (fun _ h9 => h9) rfl hnm rfl (by decide +kernel) rfl rfl (Nat.le_of_ble_eq_true rfl) dX0_init_34 (fun ws_19 H locs gq up_20 hP hD hS => ?_)
  have gpq : ws_19[pq]? = some (d0, .inr (1, [.int (nI 0), .ref q_1, .ref q_6, .ref q_11, .ref q_16, .int (nI 0), .int (nI 0)])) := gq
  have gpq_1 := up_20.get gpq_1 (by omega)
  have gpq_2 := up_20.get gpq_2 (by omega)
  have gpq_3 := up_20.get gpq_3 (by omega)
  have gpq_4 := up_20.get gpq_4 (by omega)
  have hlen := up_20.1.trans hlen
  have sm := sm.up up_20 (by simp)
  refine lv_aload_n hx hb dX0_init_37 rfl (lv_at hl 0 rfl) ?_
  refine lv_iload_n hx hb dX0_init_38 rfl (lv_at hl 1 rfl) ?_
  refine nx_putF (D := D) (ci := 1) (v := .int (nI sl)) (ty := .int) (C := RX0) (T := TX0) (N := 7) hx hb hts hin_X0 tyX0 tyX0_ok nmX0 hown hK hP hD hS pq gpq rfl 0 (by decide) fl_25 (fun _ h9 => h9) rfl hnm rfl (by decide +kernel) rfl rfl (Nat.le_of_ble_eq_true rfl) dX0_init_39 (fun ws_21 H locs gq up_22 hP hD hS => ?_)
  have gpq : ws_21[pq]? = some (d0, .inr (1, [.int (nI sl), .ref q_1, .ref q_6, .ref q_11, .ref q_16, .int (nI 0), .int (nI 0)])) := gq
  have gpq_1 := up_22.get gpq_1 (by omega)
  have gpq_2 := up_22.get gpq_2 (by omega)
  have gpq_3 := up_22.get gpq_3 (by omega)
  have gpq_4 := up_22.get gpq_4 (by omega)
  have hlen := up_22.1.trans hlen
  have sm := sm.up up_22 (by simp)
  exact CV.ret C hK hP hD hS (⟨_, _, _, _, hlen, sm, gpq, gpq_1, gpq_2, gpq_3, gpq_4⟩) (by decide) (by decide) dX0_init_42
