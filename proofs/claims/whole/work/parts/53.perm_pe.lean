set_option maxHeartbeats 4000000 in
set_option maxRecDepth 100000 in
theorem c_X4_dropMoved {D : va_G} {cB cI cJ cO : ClassId} {l : Launch} {d0 d1 d2 d3 d4 d5 mv kp : Nat} {mk mi : Nat → Nat} {K : List (Nat × Nat)} {j : Nat} {ws : va_W} (g10 : ws[10]? = some (d0, .inr (5, [.ref d1, .ref d2, .ref d3, .ref d4, .ref d5, .int (nI mv), .int (nI kp)]))) (g14 : ws[14]? = some (d4, .inl (cI, 600, .inl (fun jj => nI (mk jj))))) (g15 : ws[15]? = some (d5, .inl (cI, 600, .inl (fun jj => nI (mi jj))))) (hHK : HdK mk mi K) (hKl : K.length = mv) (hKr : KRise K) (hks : ∀ e ∈ K, e.1 < 2 ^ 31) (h600 : mv ≤ 600) (hj : j < 64) : CV D (TY cB cI cJ cO) l yX4_dropMoved wsX4_dropMoved ({ frames := 0, cells := 0, slots := 0, locals := 0 }) [.ref d0, .int (nI j)] ws (fun ws' => ∃ mk2 : Nat → Nat, ∃ mi2 : Nat → Nat, (HdK mk2 mi2 (K.filter (fun e => e.1 / 65536 != j))) ∧ Sm (fun k => k = 10 ∨ k = 14 ∨ k = 15) ws ws' ∧ ws'[10]? = some (d0, .inr (5, [.ref d1, .ref d2, .ref d3, .ref d4, .ref d5, .int (nI ((K.filter (fun e => e.1 / 65536 != j)).length)), .int (nI kp)])) ∧ ws'[14]? = some (d4, .inl (cI, 600, .inl (fun jj => nI (mk2 jj)))) ∧ ws'[15]? = some (d5, .inl (cI, 600, .inl (fun jj => nI (mi2 jj))))) := by
  refine CV.of (cc := cX4_dropMoved) (maxL := 4) (ret := none) (by decide) rfl (Nat.le_of_ble_eq_true rfl) ?_
  intro p e s m below meth c A C hK hP hD hA hS ls hl
  obtain ⟨hx, hb, hr, hml, hts, hown, hlocks, hnm⟩ := id C
  have fl_21 := hts (.fieldLink RX4 21 "TwinFinder$Permutations" "movedKey" "[I") (by decide +kernel)
  have fl_24 := hts (.fieldLink RX4 24 "TwinFinder$Permutations" "movedImage" "[I") (by decide +kernel)
  have fl_58 := hts (.fieldLink RX4 58 "TwinFinder$Permutations" "moved" "I") (by decide +kernel)
  have hin_X4 : ∀ w ∈ u_ws RX4 TX4 7, w ∈ wsX4_dropMoved := by decide +kernel
  have hl : lv_has ls 4 [(0, .ref d0), (1, .int (nI j))] := hl
  have sm : Sm (fun k => k = 10 ∨ k = 14 ∨ k = 15) ws ws := Sm.rf
  have hc0 : (0 : Nat) ≤ 0 := by decide
  have hs0 : (0 : Nat) ≤ 0 := by decide
  refine lv_iconst (v := nI 0) hx hb dX4_dropMoved_0 (by decide) ?_
  refine lv_istore_n (lv' := [(2, .int (nI 0)), (0, .ref d0), (1, .int (nI j))]) hx hb dX4_dropMoved_1 rfl hl (by decide) rfl (fun ls hl => ?_)
  refine lv_iconst (v := nI 0) hx hb dX4_dropMoved_2 (by decide) ?_
  refine lv_istore_n (lv' := [(3, .int (nI 0)), (2, .int (nI 0)), (0, .ref d0), (1, .int (nI j))]) hx hb dX4_dropMoved_3 rfl hl (by decide) rfl (fun ls hl => ?_)
  have lp_4 : ∀ (fuel : Nat) (i : Nat) (F : List (Nat × Nat)) (mk1 mi1 : Nat → Nat), mv - i < fuel → (i ≤ mv) → (F = (K.take i).filter (fun e => e.1 / 65536 != j)) → (HdK mk1 mi1 F) → (F.length ≤ i) → (∀ q, i ≤ q → q < mv → mk1 q = mk q ∧ mi1 q = mi q) → ∀ (ws1 : va_W) (H : Heap) (locs : List Loc) (ls : Array Slot), Sm (fun k => k = 10 ∨ k = 14 ∨ k = 15) ws ws1 → ws1[10]? = some (d0, .inr (5, [.ref d1, .ref d2, .ref d3, .ref d4, .ref d5, .int (nI mv), .int (nI kp)])) → ws1[14]? = some (d4, .inl (cI, 600, .inl (fun jj => nI (mk1 jj)))) → ws1[15]? = some (d5, .inl (cI, 600, .inl (fun jj => nI (mi1 jj)))) → va_P D vwCl ws1 H → va_D A ws1 → va_S A s.heap H locs → lv_has ls 4 [(0, .ref d0), (1, .int (nI j)), (2, .int (nI (F.length))), (3, .int (nI i))] → W p l e ({ frames := 0, cells := 0, slots := 0, locals := 0 }) s m ([.ref d0, .int (nI j)] : List Value).toArray below meth c H locs 0 0 (ZV D (TY cB cI cJ cO) (fun ws' => ∃ mk2 : Nat → Nat, ∃ mi2 : Nat → Nat, (HdK mk2 mi2 (K.filter (fun e => e.1 / 65536 != j))) ∧ Sm (fun k => k = 10 ∨ k = 14 ∨ k = 15) ws ws' ∧ ws'[10]? = some (d0, .inr (5, [.ref d1, .ref d2, .ref d3, .ref d4, .ref d5, .int (nI ((K.filter (fun e => e.1 / 65536 != j)).length)), .int (nI kp)])) ∧ ws'[14]? = some (d4, .inl (cI, 600, .inl (fun jj => nI (mk2 jj)))) ∧ ws'[15]? = some (d5, .inl (cI, 600, .inl (fun jj => nI (mi2 jj))))) below [.ref d0, .int (nI j)] s 0 0 A) (F0 m 4 ls []) := by
    intro fuel
    induction fuel with
    | zero => intro i F mk1 mi1 hfu; exact absurd hfu (Nat.not_lt_zero _)
    | succ fuel ih_4 =>
      intro i F mk1 mi1 hfu_4 hi hF hF2 hFl hrest ws1 H locs ls sm g10 g14 g15 hP hD hS hl
      refine lv_iload_n hx hb dX4_dropMoved_4 rfl (lv_at hl 3 rfl) ?_
      refine lv_aload_n hx hb dX4_dropMoved_5 rfl (lv_at hl 0 rfl) ?_
      refine va_get (D := D) (ci := 5) (v := .int (nI mv)) (C := RX4) (T := TX4) (N := 7) hx hb hts hin_X4 hown hK hP 10 g10 rfl 5 (by decide) fl_58 (fun _ h9 => h9) rfl dX4_dropMoved_6 ?_
      refine nx_icmp_ge (tgt := 58) hx hb (by omega) (by omega) dX4_dropMoved_9 (by decide) (fun c_9 => ?_) (fun c_9 => ?_)
      · refine lv_aload_n hx hb dX4_dropMoved_58 rfl (lv_at hl 0 rfl) ?_
        refine lv_iload_n hx hb dX4_dropMoved_59 rfl (lv_at hl 2 rfl) ?_
        refine nx_put (D := D) (ci := 5) (v := .int (nI (F.length))) (ty := .int) (C := RX4) (T := TX4) (N := 7) hx hb hts hin_X4 tyX4 tyX4_ok nmX4 hown hK hP hD hS 10 g10 rfl 5 (by decide) fl_58 (fun _ h9 => h9) rfl (by decide +kernel) rfl rfl (Nat.le_of_ble_eq_true rfl) dX4_dropMoved_60 (fun ws_1 H locs gq up_2 hP hD hS => ?_)
        have g10 : ws_1[10]? = some (d0, .inr (5, [.ref d1, .ref d2, .ref d3, .ref d4, .ref d5, .int (nI (F.length)), .int (nI kp)])) := gq
        have g14 := up_2.get g14 (by decide)
        have g15 := up_2.get g15 (by decide)
        have sm := sm.up up_2 (by simp)
        have hFe : F = K.filter (fun e => e.1 / 65536 != j) := by rw [hF, List.take_of_length_le (by omega)]
        have g10 : ws_1[10]? = some (d0, .inr (5, [.ref d1, .ref d2, .ref d3, .ref d4, .ref d5, .int (nI ((K.filter (fun e => e.1 / 65536 != j)).length)), .int (nI kp)])) := by rw [← hFe]; exact g10
        exact CV.ret C hK hP hD hS (⟨_, _, (by rw [← hFe]; exact hF2), sm, g10, g14, g15⟩) hc0 hs0 dX4_dropMoved_63
      · have h3 := hHK i (by omega)
        have h4 := hrest i (by omega) (by omega)
        have hkb := hks K[i] (List.getElem_mem _)
        refine lv_aload_n hx hb dX4_dropMoved_12 rfl (lv_at hl 0 rfl) ?_
        refine va_get (D := D) (ci := 5) (v := .ref d4) (C := RX4) (T := TX4) (N := 7) hx hb hts hin_X4 hown hK hP 10 g10 rfl 3 (by decide) fl_21 (fun _ h9 => h9) rfl dX4_dropMoved_13 ?_
        refine lv_iload_n hx hb dX4_dropMoved_16 rfl (lv_at hl 3 rfl) ?_
        refine nx_iald hx hb hK hP 14 1 g14 rfl (k := i) (by omega) (by decide) dX4_dropMoved_17 ?_
        refine lv_bipush (v := nI 16) hx hb dX4_dropMoved_18 (by decide) ?_
        refine lv_ishr hx hb dX4_dropMoved_20 ?_
        rw [nI_shr16 (by omega)]
        refine lv_iload_n hx hb dX4_dropMoved_21 rfl (lv_at hl 1 rfl) ?_
        refine nx_icmp_eq (tgt := 52) hx hb (by omega) (by omega) dX4_dropMoved_22 (by decide) (fun c_22 => ?_) (fun c_22 => ?_)
        · refine lv_iinc (v := (nI (i + 1))) (lv' := [(3, .int (nI (i + 1))), (0, .ref d0), (1, .int (nI j)), (2, .int (nI (F.length)))]) hx hb dX4_dropMoved_52 hl (k := 3) rfl (nx_inc _ 1) (by decide) rfl (fun ls hl => ?_)
          refine lv_goto (tgt := 4) hx hb dX4_dropMoved_55 (by decide) ?_
          have h5 := filtK_take (K := K) (k := i) (by omega) (fun e => e.1 / 65536 != j)
          rw [if_neg (by simp; omega), List.append_nil, ← hF] at h5
          exact ih_4 (i + 1) F mk1 mi1 (by omega) (by omega) h5.symm hF2 (by omega) (fun q h6 h7 => hrest q (by omega) h7) _ _ _ _ sm g10 g14 g15 hP hD hS (lv_sub hl [1, 2, 3, 0] rfl)
        · refine lv_aload_n hx hb dX4_dropMoved_25 rfl (lv_at hl 0 rfl) ?_
          refine va_get (D := D) (ci := 5) (v := .ref d4) (C := RX4) (T := TX4) (N := 7) hx hb hts hin_X4 hown hK hP 10 g10 rfl 3 (by decide) fl_21 (fun _ h9 => h9) rfl dX4_dropMoved_26 ?_
          refine lv_iload_n hx hb dX4_dropMoved_29 rfl (lv_at hl 2 rfl) ?_
          refine lv_aload_n hx hb dX4_dropMoved_30 rfl (lv_at hl 0 rfl) ?_
          refine va_get (D := D) (ci := 5) (v := .ref d4) (C := RX4) (T := TX4) (N := 7) hx hb hts hin_X4 hown hK hP 10 g10 rfl 3 (by decide) fl_21 (fun _ h9 => h9) rfl dX4_dropMoved_31 ?_
          refine lv_iload_n hx hb dX4_dropMoved_34 rfl (lv_at hl 3 rfl) ?_
          refine nx_iald hx hb hK hP 14 1 g14 rfl (k := i) (by omega) (by decide) dX4_dropMoved_35 ?_
          refine nx_iastN hx hb hK hP hD hS 14 1 g14 rfl (k := (F.length)) (by omega) (by decide) dX4_dropMoved_36 (fun ws_3 H locs gq up_4 hP hD hS => ?_)
          have g14 : ws_3[14]? = some (d4, .inl (cI, 600, .inl (fun jj => nI ((va_up mk1 F.length (mk1 i)) jj)))) := gq
          have g10 := up_4.get g10 (by decide)
          have g15 := up_4.get g15 (by decide)
          have sm := sm.up up_4 (by simp)
          refine lv_aload_n hx hb dX4_dropMoved_37 rfl (lv_at hl 0 rfl) ?_
          refine va_get (D := D) (ci := 5) (v := .ref d5) (C := RX4) (T := TX4) (N := 7) hx hb hts hin_X4 hown hK hP 10 g10 rfl 4 (by decide) fl_24 (fun _ h9 => h9) rfl dX4_dropMoved_38 ?_
          refine lv_iload_n hx hb dX4_dropMoved_41 rfl (lv_at hl 2 rfl) ?_
          refine lv_aload_n hx hb dX4_dropMoved_42 rfl (lv_at hl 0 rfl) ?_
          refine va_get (D := D) (ci := 5) (v := .ref d5) (C := RX4) (T := TX4) (N := 7) hx hb hts hin_X4 hown hK hP 10 g10 rfl 4 (by decide) fl_24 (fun _ h9 => h9) rfl dX4_dropMoved_43 ?_
          refine lv_iload_n hx hb dX4_dropMoved_46 rfl (lv_at hl 3 rfl) ?_
          refine nx_iald hx hb hK hP 15 1 g15 rfl (k := i) (by omega) (by decide) dX4_dropMoved_47 ?_
          refine nx_iastN hx hb hK hP hD hS 15 1 g15 rfl (k := (F.length)) (by omega) (by decide) dX4_dropMoved_48 (fun ws_5 H locs gq up_6 hP hD hS => ?_)
          have g15 : ws_5[15]? = some (d5, .inl (cI, 600, .inl (fun jj => nI ((va_up mi1 F.length (mi1 i)) jj)))) := gq
          have g10 := up_6.get g10 (by decide)
          have g14 := up_6.get g14 (by decide)
          have sm := sm.up up_6 (by simp)
          refine lv_iinc (v := (nI (F.length + 1))) (lv' := [(2, .int (nI (F.length + 1))), (0, .ref d0), (1, .int (nI j)), (3, .int (nI i))]) hx hb dX4_dropMoved_49 hl (k := 2) rfl (nx_inc _ 1) (by decide) rfl (fun ls hl => ?_)
          refine lv_iinc (v := (nI (i + 1))) (lv' := [(3, .int (nI (i + 1))), (2, .int (nI (F.length + 1))), (0, .ref d0), (1, .int (nI j))]) hx hb dX4_dropMoved_52 hl (k := 3) rfl (nx_inc _ 1) (by decide) rfl (fun ls hl => ?_)
          refine lv_goto (tgt := 4) hx hb dX4_dropMoved_55 (by decide) ?_
          have h5 := filtK_take (K := K) (k := i) (by omega) (fun e => e.1 / 65536 != j)
          rw [if_pos (by simp; omega), ← hF] at h5
          have hF3 := hF2.app (e := K[i])
          rw [← h3.1, ← h3.2, ← h4.1, ← h4.2] at hF3
          have hl : lv_has ls 4 [(3, .int (nI (i + 1))), (2, .int (nI ((F ++ [K[i]]).length))), (0, .ref d0), (1, .int (nI j))] := by rw [← show F.length + 1 = (F ++ [K[i]]).length from (by rw [List.length_append]; rfl)]; exact hl
          exact ih_4 (i + 1) (F ++ [K[i]]) _ _ (by omega) (by omega) h5.symm hF3 (by rw [List.length_append]; simp; omega) (fun q h6 h7 => by rw [va_up_ne _ _ (by omega), va_up_ne _ _ (by omega)]; exact hrest q (by omega) h7) _ _ _ _ sm g10 g14 g15 hP hD hS (lv_sub hl [2, 3, 1, 0] rfl)
  exact lp_4 _ 0 [] mk mi (Nat.lt_succ_self _) (Nat.zero_le _) rfl (fun q hq => absurd hq (Nat.not_lt_zero q)) (Nat.le_refl _) (fun q _ _ => ⟨rfl, rfl⟩) _ _ _ _ sm g10 g14 g15 hP hD hS (lv_sub hl [2, 3, 1, 0] rfl)
